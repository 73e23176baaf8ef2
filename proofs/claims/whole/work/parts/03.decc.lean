theorem dX5_book_54 : decode cX5_book 54 = .ok (.getfield 10, 3) := by decide +kernel
theorem dX5_book_57 : decode cX5_book 57 = .ok (.invokevirtual 55, 3) := by decide +kernel
theorem dX5_book_60 : decode cX5_book 60 = .ok (.aload_n 0, 1) := by decide +kernel
theorem dX5_book_61 : decode cX5_book 61 = .ok (.getfield 10, 3) := by decide +kernel
theorem dX5_book_64 : decode cX5_book 64 = .ok (.iload_n 1, 1) := by decide +kernel
theorem dX5_book_65 : decode cX5_book 65 = .ok (.iload_n 2, 1) := by decide +kernel
theorem dX5_book_66 : decode cX5_book 66 = .ok (.iload_n 3, 1) := by decide +kernel
theorem dX5_book_67 : decode cX5_book 67 = .ok (.invokevirtual 98, 3) := by decide +kernel
theorem dX5_book_70 : decode cX5_book 70 = .ok (.aload_n 0, 1) := by decide +kernel
theorem dX5_book_71 : decode cX5_book 71 = .ok (.getfield 10, 3) := by decide +kernel
theorem dX5_book_74 : decode cX5_book 74 = .ok (.iload_n 1, 1) := by decide +kernel
theorem dX5_book_75 : decode cX5_book 75 = .ok (.iload_n 2, 1) := by decide +kernel
theorem dX5_book_76 : decode cX5_book 76 = .ok (.invokevirtual 101, 3) := by decide +kernel
theorem dX5_book_79 : decode cX5_book 79 = .ok (.ireturn, 1) := by decide +kernel
theorem dX5_cancel_0 : decode cX5_cancel 0 = .ok (.iload_n 2, 1) := by decide +kernel
theorem dX5_cancel_1 : decode cX5_cancel 1 = .ok (.invokestatic 63, 3) := by decide +kernel
theorem dX5_cancel_4 : decode cX5_cancel 4 = .ok (.ifCond .eq 5, 3) := by decide +kernel
theorem dX5_cancel_7 : decode cX5_cancel 7 = .ok (.iconst (-1), 1) := by decide +kernel
theorem dX5_cancel_8 : decode cX5_cancel 8 = .ok (.ireturn, 1) := by decide +kernel
theorem dX5_cancel_9 : decode cX5_cancel 9 = .ok (.iload_n 1, 1) := by decide +kernel
theorem dX5_cancel_10 : decode cX5_cancel 10 = .ok (.iconst 0, 1) := by decide +kernel
theorem dX5_cancel_11 : decode cX5_cancel 11 = .ok (.bipush 99, 2) := by decide +kernel
theorem dX5_cancel_13 : decode cX5_cancel 13 = .ok (.invokestatic 47, 3) := by decide +kernel
theorem dX5_cancel_16 : decode cX5_cancel 16 = .ok (.ifCond .eq 6, 3) := by decide +kernel
theorem dX5_cancel_19 : decode cX5_cancel 19 = .ok (.bipush (-2), 2) := by decide +kernel
theorem dX5_cancel_21 : decode cX5_cancel 21 = .ok (.ireturn, 1) := by decide +kernel
theorem dX5_cancel_22 : decode cX5_cancel 22 = .ok (.aload_n 0, 1) := by decide +kernel
theorem dX5_cancel_23 : decode cX5_cancel 23 = .ok (.getfield 10, 3) := by decide +kernel
theorem dX5_cancel_26 : decode cX5_cancel 26 = .ok (.iload_n 1, 1) := by decide +kernel
theorem dX5_cancel_27 : decode cX5_cancel 27 = .ok (.iload_n 2, 1) := by decide +kernel
theorem dX5_cancel_28 : decode cX5_cancel 28 = .ok (.invokevirtual 104, 3) := by decide +kernel
theorem dX5_cancel_31 : decode cX5_cancel 31 = .ok (.istore_n 3, 1) := by decide +kernel
theorem dX5_cancel_32 : decode cX5_cancel 32 = .ok (.iload_n 3, 1) := by decide +kernel
theorem dX5_cancel_33 : decode cX5_cancel 33 = .ok (.bipush (-5), 2) := by decide +kernel
theorem dX5_cancel_35 : decode cX5_cancel 35 = .ok (.if_icmp .ne 6, 3) := by decide +kernel
theorem dX5_cancel_38 : decode cX5_cancel 38 = .ok (.bipush (-5), 2) := by decide +kernel
theorem dX5_cancel_40 : decode cX5_cancel 40 = .ok (.ireturn, 1) := by decide +kernel
theorem dX5_cancel_41 : decode cX5_cancel 41 = .ok (.aload_n 0, 1) := by decide +kernel
theorem dX5_cancel_42 : decode cX5_cancel 42 = .ok (.getfield 10, 3) := by decide +kernel
theorem dX5_cancel_45 : decode cX5_cancel 45 = .ok (.iload_n 3, 1) := by decide +kernel
theorem dX5_cancel_46 : decode cX5_cancel 46 = .ok (.invokevirtual 107, 3) := by decide +kernel
theorem dX5_cancel_49 : decode cX5_cancel 49 = .ok (.istore 4, 2) := by decide +kernel
theorem dX5_cancel_51 : decode cX5_cancel 51 = .ok (.aload_n 0, 1) := by decide +kernel
theorem dX5_cancel_52 : decode cX5_cancel 52 = .ok (.getfield 25, 3) := by decide +kernel
theorem dX5_cancel_55 : decode cX5_cancel 55 = .ok (.aload_n 0, 1) := by decide +kernel
theorem dX5_cancel_56 : decode cX5_cancel 56 = .ok (.getfield 10, 3) := by decide +kernel
theorem dX5_cancel_59 : decode cX5_cancel 59 = .ok (.invokevirtual 55, 3) := by decide +kernel
theorem dX5_cancel_62 : decode cX5_cancel 62 = .ok (.aload_n 0, 1) := by decide +kernel
theorem dX5_cancel_63 : decode cX5_cancel 63 = .ok (.getfield 10, 3) := by decide +kernel
theorem dX5_cancel_66 : decode cX5_cancel 66 = .ok (.iload_n 3, 1) := by decide +kernel
theorem dX5_cancel_67 : decode cX5_cancel 67 = .ok (.invokevirtual 110, 3) := by decide +kernel
theorem dX5_cancel_70 : decode cX5_cancel 70 = .ok (.iload 4, 2) := by decide +kernel
theorem dX5_cancel_72 : decode cX5_cancel 72 = .ok (.ireturn, 1) := by decide +kernel
theorem dX5_pass_0 : decode cX5_pass 0 = .ok (.iload_n 1, 1) := by decide +kernel
theorem dX5_pass_1 : decode cX5_pass 1 = .ok (.iconst 1, 1) := by decide +kernel
theorem dX5_pass_2 : decode cX5_pass 2 = .ok (.bipush 99, 2) := by decide +kernel
theorem dX5_pass_4 : decode cX5_pass 4 = .ok (.invokestatic 47, 3) := by decide +kernel
theorem dX5_pass_7 : decode cX5_pass 7 = .ok (.ifCond .eq 6, 3) := by decide +kernel
theorem dX5_pass_10 : decode cX5_pass 10 = .ok (.bipush (-2), 2) := by decide +kernel
theorem dX5_pass_12 : decode cX5_pass 12 = .ok (.ireturn, 1) := by decide +kernel
theorem dX5_pass_13 : decode cX5_pass 13 = .ok (.aload_n 0, 1) := by decide +kernel
theorem dX5_pass_14 : decode cX5_pass 14 = .ok (.getfield 10, 3) := by decide +kernel
theorem dX5_pass_17 : decode cX5_pass 17 = .ok (.invokevirtual 114, 3) := by decide +kernel
theorem dX5_pass_20 : decode cX5_pass 20 = .ok (.sipush 9999, 3) := by decide +kernel
theorem dX5_pass_23 : decode cX5_pass 23 = .ok (.iload_n 1, 1) := by decide +kernel
theorem dX5_pass_24 : decode cX5_pass 24 = .ok (.isub, 1) := by decide +kernel
theorem dX5_pass_25 : decode cX5_pass 25 = .ok (.if_icmp .le 6, 3) := by decide +kernel
theorem dX5_pass_28 : decode cX5_pass 28 = .ok (.bipush (-3), 2) := by decide +kernel
theorem dX5_pass_30 : decode cX5_pass 30 = .ok (.ireturn, 1) := by decide +kernel
theorem dX5_pass_31 : decode cX5_pass 31 = .ok (.aload_n 0, 1) := by decide +kernel
theorem dX5_pass_32 : decode cX5_pass 32 = .ok (.getfield 25, 3) := by decide +kernel
theorem dX5_pass_35 : decode cX5_pass 35 = .ok (.aload_n 0, 1) := by decide +kernel
theorem dX5_pass_36 : decode cX5_pass 36 = .ok (.getfield 10, 3) := by decide +kernel
theorem dX5_pass_39 : decode cX5_pass 39 = .ok (.invokevirtual 55, 3) := by decide +kernel
theorem dX5_pass_42 : decode cX5_pass 42 = .ok (.aload_n 0, 1) := by decide +kernel
theorem dX5_pass_43 : decode cX5_pass 43 = .ok (.getfield 10, 3) := by decide +kernel
theorem dX5_pass_46 : decode cX5_pass 46 = .ok (.bipush 6, 2) := by decide +kernel
theorem dX5_pass_48 : decode cX5_pass 48 = .ok (.invokevirtual 118, 3) := by decide +kernel
theorem dX5_pass_51 : decode cX5_pass 51 = .ok (.istore_n 2, 1) := by decide +kernel
theorem dX5_pass_52 : decode cX5_pass 52 = .ok (.iconst 0, 1) := by decide +kernel
theorem dX5_pass_53 : decode cX5_pass 53 = .ok (.istore_n 3, 1) := by decide +kernel
theorem dX5_pass_54 : decode cX5_pass 54 = .ok (.iload_n 3, 1) := by decide +kernel
theorem dX5_pass_55 : decode cX5_pass 55 = .ok (.iload_n 1, 1) := by decide +kernel
theorem dX5_pass_56 : decode cX5_pass 56 = .ok (.if_icmp .ge 17, 3) := by decide +kernel
theorem dX5_pass_59 : decode cX5_pass 59 = .ok (.aload_n 0, 1) := by decide +kernel
theorem dX5_pass_60 : decode cX5_pass 60 = .ok (.getfield 10, 3) := by decide +kernel
theorem dX5_pass_63 : decode cX5_pass 63 = .ok (.iconst 1, 1) := by decide +kernel
theorem dX5_pass_64 : decode cX5_pass 64 = .ok (.invokevirtual 121, 3) := by decide +kernel
theorem dX5_pass_67 : decode cX5_pass 67 = .ok (.iinc 3 1, 3) := by decide +kernel
theorem dX5_pass_70 : decode cX5_pass 70 = .ok (.goto (-16), 3) := by decide +kernel
theorem dX5_pass_73 : decode cX5_pass 73 = .ok (.aload_n 0, 1) := by decide +kernel
theorem dX5_pass_74 : decode cX5_pass 74 = .ok (.getfield 10, 3) := by decide +kernel
theorem dX5_pass_77 : decode cX5_pass 77 = .ok (.bipush 6, 2) := by decide +kernel
theorem dX5_pass_79 : decode cX5_pass 79 = .ok (.invokevirtual 118, 3) := by decide +kernel
theorem dX5_pass_82 : decode cX5_pass 82 = .ok (.iload_n 2, 1) := by decide +kernel
theorem dX5_pass_83 : decode cX5_pass 83 = .ok (.isub, 1) := by decide +kernel
theorem dX5_pass_84 : decode cX5_pass 84 = .ok (.ireturn, 1) := by decide +kernel
theorem dX5_type_0 : decode cX5_type 0 = .ok (.aload_n 0, 1) := by decide +kernel
theorem dX5_type_1 : decode cX5_type 1 = .ok (.getfield 32, 3) := by decide +kernel
theorem dX5_type_4 : decode cX5_type 4 = .ok (.iload_n 1, 1) := by decide +kernel
theorem dX5_type_5 : decode cX5_type 5 = .ok (.invokevirtual 125, 3) := by decide +kernel
theorem dX5_type_8 : decode cX5_type 8 = .ok (.ifCond .eq 13, 3) := by decide +kernel
theorem dX5_type_11 : decode cX5_type 11 = .ok (.aload_n 0, 1) := by decide +kernel
theorem dX5_type_12 : decode cX5_type 12 = .ok (.getfield 32, 3) := by decide +kernel
theorem dX5_type_15 : decode cX5_type 15 = .ok (.invokevirtual 129, 3) := by decide +kernel
theorem dX5_type_18 : decode cX5_type 18 = .ok (.goto 5, 3) := by decide +kernel
theorem dX5_type_21 : decode cX5_type 21 = .ok (.bipush (-3), 2) := by decide +kernel
theorem dX5_type_23 : decode cX5_type 23 = .ok (.ireturn, 1) := by decide +kernel
theorem dX5_clearText_0 : decode cX5_clearText 0 = .ok (.aload_n 0, 1) := by decide +kernel
theorem dX5_clearText_1 : decode cX5_clearText 1 = .ok (.getfield 32, 3) := by decide +kernel
theorem dX5_clearText_4 : decode cX5_clearText 4 = .ok (.invokevirtual 129, 3) := by decide +kernel
theorem dX5_clearText_7 : decode cX5_clearText 7 = .ok (.istore_n 1, 1) := by decide +kernel
theorem dX5_clearText_8 : decode cX5_clearText 8 = .ok (.aload_n 0, 1) := by decide +kernel
theorem dX5_clearText_9 : decode cX5_clearText 9 = .ok (.getfield 32, 3) := by decide +kernel
theorem dX5_clearText_12 : decode cX5_clearText 12 = .ok (.invokevirtual 132, 3) := by decide +kernel
theorem dX5_clearText_15 : decode cX5_clearText 15 = .ok (.iload_n 1, 1) := by decide +kernel
theorem dX5_clearText_16 : decode cX5_clearText 16 = .ok (.ireturn, 1) := by decide +kernel
theorem dX5_bookPlan_0 : decode cX5_bookPlan 0 = .ok (.aload_n 0, 1) := by decide +kernel
theorem dX5_bookPlan_1 : decode cX5_bookPlan 1 = .ok (.getfield 39, 3) := by decide +kernel
theorem dX5_bookPlan_4 : decode cX5_bookPlan 4 = .ok (.aload_n 0, 1) := by decide +kernel
theorem dX5_bookPlan_5 : decode cX5_bookPlan 5 = .ok (.getfield 32, 3) := by decide +kernel
theorem dX5_bookPlan_8 : decode cX5_bookPlan 8 = .ok (.invokevirtual 135, 3) := by decide +kernel
theorem dX5_bookPlan_11 : decode cX5_bookPlan 11 = .ok (.istore_n 1, 1) := by decide +kernel
theorem dX5_bookPlan_12 : decode cX5_bookPlan 12 = .ok (.iload_n 1, 1) := by decide +kernel
theorem dX5_bookPlan_13 : decode cX5_bookPlan 13 = .ok (.bipush (-5), 2) := by decide +kernel
theorem dX5_bookPlan_15 : decode cX5_bookPlan 15 = .ok (.if_icmp .eq 8, 3) := by decide +kernel
theorem dX5_bookPlan_18 : decode cX5_bookPlan 18 = .ok (.bipush (-100), 2) := by decide +kernel
theorem dX5_bookPlan_20 : decode cX5_bookPlan 20 = .ok (.iload_n 1, 1) := by decide +kernel
theorem dX5_bookPlan_21 : decode cX5_bookPlan 21 = .ok (.isub, 1) := by decide +kernel
theorem dX5_bookPlan_22 : decode cX5_bookPlan 22 = .ok (.ireturn, 1) := by decide +kernel
theorem dX5_bookPlan_23 : decode cX5_bookPlan 23 = .ok (.aload_n 0, 1) := by decide +kernel
theorem dX5_bookPlan_24 : decode cX5_bookPlan 24 = .ok (.getfield 16, 3) := by decide +kernel
theorem dX5_bookPlan_27 : decode cX5_bookPlan 27 = .ok (.aload_n 0, 1) := by decide +kernel
theorem dX5_bookPlan_28 : decode cX5_bookPlan 28 = .ok (.getfield 10, 3) := by decide +kernel
theorem dX5_bookPlan_31 : decode cX5_bookPlan 31 = .ok (.invokevirtual 139, 3) := by decide +kernel
theorem dX5_bookPlan_34 : decode cX5_bookPlan 34 = .ok (.iconst 0, 1) := by decide +kernel
theorem dX5_bookPlan_35 : decode cX5_bookPlan 35 = .ok (.istore_n 2, 1) := by decide +kernel
theorem dX5_bookPlan_36 : decode cX5_bookPlan 36 = .ok (.iload_n 2, 1) := by decide +kernel
theorem dX5_bookPlan_37 : decode cX5_bookPlan 37 = .ok (.aload_n 0, 1) := by decide +kernel
theorem dX5_bookPlan_38 : decode cX5_bookPlan 38 = .ok (.getfield 39, 3) := by decide +kernel
theorem dX5_bookPlan_41 : decode cX5_bookPlan 41 = .ok (.invokevirtual 142, 3) := by decide +kernel
theorem dX5_bookPlan_44 : decode cX5_bookPlan 44 = .ok (.if_icmp .ge 72, 3) := by decide +kernel
theorem dX5_bookPlan_47 : decode cX5_bookPlan 47 = .ok (.aload_n 0, 1) := by decide +kernel
theorem dX5_bookPlan_48 : decode cX5_bookPlan 48 = .ok (.getfield 39, 3) := by decide +kernel
theorem dX5_bookPlan_51 : decode cX5_bookPlan 51 = .ok (.iload_n 2, 1) := by decide +kernel
theorem dX5_bookPlan_52 : decode cX5_bookPlan 52 = .ok (.invokevirtual 145, 3) := by decide +kernel
theorem dX5_bookPlan_55 : decode cX5_bookPlan 55 = .ok (.istore_n 3, 1) := by decide +kernel
theorem dX5_bookPlan_56 : decode cX5_bookPlan 56 = .ok (.aload_n 0, 1) := by decide +kernel
theorem dX5_bookPlan_57 : decode cX5_bookPlan 57 = .ok (.getfield 39, 3) := by decide +kernel
theorem dX5_bookPlan_60 : decode cX5_bookPlan 60 = .ok (.iload_n 2, 1) := by decide +kernel
theorem dX5_bookPlan_61 : decode cX5_bookPlan 61 = .ok (.invokevirtual 148, 3) := by decide +kernel
theorem dX5_bookPlan_64 : decode cX5_bookPlan 64 = .ok (.istore 4, 2) := by decide +kernel
theorem dX5_bookPlan_66 : decode cX5_bookPlan 66 = .ok (.aload_n 0, 1) := by decide +kernel
theorem dX5_bookPlan_67 : decode cX5_bookPlan 67 = .ok (.getfield 39, 3) := by decide +kernel
theorem dX5_bookPlan_70 : decode cX5_bookPlan 70 = .ok (.iload_n 2, 1) := by decide +kernel
theorem dX5_bookPlan_71 : decode cX5_bookPlan 71 = .ok (.invokevirtual 151, 3) := by decide +kernel
theorem dX5_bookPlan_74 : decode cX5_bookPlan 74 = .ok (.istore 5, 2) := by decide +kernel
theorem dX5_bookPlan_76 : decode cX5_bookPlan 76 = .ok (.aload_n 0, 1) := by decide +kernel
theorem dX5_bookPlan_77 : decode cX5_bookPlan 77 = .ok (.getfield 16, 3) := by decide +kernel
theorem dX5_bookPlan_80 : decode cX5_bookPlan 80 = .ok (.iload_n 3, 1) := by decide +kernel
theorem dX5_bookPlan_81 : decode cX5_bookPlan 81 = .ok (.iload 4, 2) := by decide +kernel
theorem dX5_bookPlan_83 : decode cX5_bookPlan 83 = .ok (.iload 5, 2) := by decide +kernel
theorem dX5_bookPlan_85 : decode cX5_bookPlan 85 = .ok (.invokevirtual 94, 3) := by decide +kernel
theorem dX5_bookPlan_88 : decode cX5_bookPlan 88 = .ok (.istore 6, 2) := by decide +kernel
theorem dX5_bookPlan_90 : decode cX5_bookPlan 90 = .ok (.iload 6, 2) := by decide +kernel
theorem dX5_bookPlan_92 : decode cX5_bookPlan 92 = .ok (.ifCond .eq 6, 3) := by decide +kernel
theorem dX5_bookPlan_95 : decode cX5_bookPlan 95 = .ok (.iload 6, 2) := by decide +kernel
theorem dX5_bookPlan_97 : decode cX5_bookPlan 97 = .ok (.ireturn, 1) := by decide +kernel
theorem dX5_bookPlan_98 : decode cX5_bookPlan 98 = .ok (.aload_n 0, 1) := by decide +kernel
theorem dX5_bookPlan_99 : decode cX5_bookPlan 99 = .ok (.getfield 16, 3) := by decide +kernel
theorem dX5_bookPlan_102 : decode cX5_bookPlan 102 = .ok (.iload_n 3, 1) := by decide +kernel
theorem dX5_bookPlan_103 : decode cX5_bookPlan 103 = .ok (.iload 4, 2) := by decide +kernel
theorem dX5_bookPlan_105 : decode cX5_bookPlan 105 = .ok (.iload 5, 2) := by decide +kernel
theorem dX5_bookPlan_107 : decode cX5_bookPlan 107 = .ok (.invokevirtual 98, 3) := by decide +kernel
theorem dX5_bookPlan_110 : decode cX5_bookPlan 110 = .ok (.iinc 2 1, 3) := by decide +kernel
theorem dX5_bookPlan_113 : decode cX5_bookPlan 113 = .ok (.goto (-77), 3) := by decide +kernel
theorem dX5_bookPlan_116 : decode cX5_bookPlan 116 = .ok (.aload_n 0, 1) := by decide +kernel
theorem dX5_bookPlan_117 : decode cX5_bookPlan 117 = .ok (.getfield 25, 3) := by decide +kernel
theorem dX5_bookPlan_120 : decode cX5_bookPlan 120 = .ok (.aload_n 0, 1) := by decide +kernel
theorem dX5_bookPlan_121 : decode cX5_bookPlan 121 = .ok (.getfield 10, 3) := by decide +kernel
theorem dX5_bookPlan_124 : decode cX5_bookPlan 124 = .ok (.invokevirtual 55, 3) := by decide +kernel
theorem dX5_bookPlan_127 : decode cX5_bookPlan 127 = .ok (.aload_n 0, 1) := by decide +kernel
theorem dX5_bookPlan_128 : decode cX5_bookPlan 128 = .ok (.getfield 10, 3) := by decide +kernel
theorem dX5_bookPlan_131 : decode cX5_bookPlan 131 = .ok (.aload_n 0, 1) := by decide +kernel
theorem dX5_bookPlan_132 : decode cX5_bookPlan 132 = .ok (.getfield 16, 3) := by decide +kernel
theorem dX5_bookPlan_135 : decode cX5_bookPlan 135 = .ok (.invokevirtual 139, 3) := by decide +kernel
theorem dX5_bookPlan_138 : decode cX5_bookPlan 138 = .ok (.aload_n 0, 1) := by decide +kernel
theorem dX5_bookPlan_139 : decode cX5_bookPlan 139 = .ok (.getfield 39, 3) := by decide +kernel
theorem dX5_bookPlan_142 : decode cX5_bookPlan 142 = .ok (.invokevirtual 142, 3) := by decide +kernel
theorem dX5_bookPlan_145 : decode cX5_bookPlan 145 = .ok (.ireturn, 1) := by decide +kernel
theorem dX5_undo_0 : decode cX5_undo 0 = .ok (.aload_n 0, 1) := by decide +kernel
theorem dX5_undo_1 : decode cX5_undo 1 = .ok (.getfield 25, 3) := by decide +kernel
theorem dX5_undo_4 : decode cX5_undo 4 = .ok (.invokevirtual 154, 3) := by decide +kernel
theorem dX5_undo_7 : decode cX5_undo 7 = .ok (.ifCond .ne 6, 3) := by decide +kernel
theorem dX5_undo_10 : decode cX5_undo 10 = .ok (.bipush (-5), 2) := by decide +kernel
theorem dX5_undo_12 : decode cX5_undo 12 = .ok (.ireturn, 1) := by decide +kernel
theorem dX5_undo_13 : decode cX5_undo 13 = .ok (.aload_n 0, 1) := by decide +kernel
theorem dX5_undo_14 : decode cX5_undo 14 = .ok (.getfield 25, 3) := by decide +kernel
theorem dX5_undo_17 : decode cX5_undo 17 = .ok (.aload_n 0, 1) := by decide +kernel
theorem dX5_undo_18 : decode cX5_undo 18 = .ok (.getfield 10, 3) := by decide +kernel
theorem dX5_undo_21 : decode cX5_undo 21 = .ok (.invokevirtual 155, 3) := by decide +kernel
theorem dX5_undo_24 : decode cX5_undo 24 = .ok (.aload_n 0, 1) := by decide +kernel
theorem dX5_undo_25 : decode cX5_undo 25 = .ok (.getfield 25, 3) := by decide +kernel
theorem dX5_undo_28 : decode cX5_undo 28 = .ok (.invokevirtual 154, 3) := by decide +kernel
theorem dX5_undo_31 : decode cX5_undo 31 = .ok (.ireturn, 1) := by decide +kernel
theorem dX5_keep_0 : decode cX5_keep 0 = .ok (.aload_n 0, 1) := by decide +kernel
theorem dX5_keep_1 : decode cX5_keep 1 = .ok (.getfield 19, 3) := by decide +kernel
theorem dX5_keep_4 : decode cX5_keep 4 = .ok (.aload_n 0, 1) := by decide +kernel
theorem dX5_keep_5 : decode cX5_keep 5 = .ok (.getfield 10, 3) := by decide +kernel
theorem dX5_keep_8 : decode cX5_keep 8 = .ok (.invokevirtual 139, 3) := by decide +kernel
theorem dX5_keep_11 : decode cX5_keep 11 = .ok (.aload_n 0, 1) := by decide +kernel
theorem dX5_keep_12 : decode cX5_keep 12 = .ok (.iconst 1, 1) := by decide +kernel
theorem dX5_keep_13 : decode cX5_keep 13 = .ok (.putfield 158, 3) := by decide +kernel
theorem dX5_keep_16 : decode cX5_keep 16 = .ok (.aload_n 0, 1) := by decide +kernel
theorem dX5_keep_17 : decode cX5_keep 17 = .ok (.getfield 10, 3) := by decide +kernel
theorem dX5_keep_20 : decode cX5_keep 20 = .ok (.invokevirtual 114, 3) := by decide +kernel
theorem dX5_keep_23 : decode cX5_keep 23 = .ok (.ireturn, 1) := by decide +kernel
theorem dX5_restore_0 : decode cX5_restore 0 = .ok (.aload_n 0, 1) := by decide +kernel
theorem dX5_restore_1 : decode cX5_restore 1 = .ok (.getfield 158, 3) := by decide +kernel
theorem dX5_restore_4 : decode cX5_restore 4 = .ok (.ifCond .ne 6, 3) := by decide +kernel
theorem dX5_restore_7 : decode cX5_restore 7 = .ok (.bipush (-5), 2) := by decide +kernel
theorem dX5_restore_9 : decode cX5_restore 9 = .ok (.ireturn, 1) := by decide +kernel
theorem dX5_restore_10 : decode cX5_restore 10 = .ok (.aload_n 0, 1) := by decide +kernel
theorem dX5_restore_11 : decode cX5_restore 11 = .ok (.getfield 25, 3) := by decide +kernel
theorem dX5_restore_14 : decode cX5_restore 14 = .ok (.aload_n 0, 1) := by decide +kernel
theorem dX5_restore_15 : decode cX5_restore 15 = .ok (.getfield 10, 3) := by decide +kernel
theorem dX5_restore_18 : decode cX5_restore 18 = .ok (.invokevirtual 55, 3) := by decide +kernel
theorem dX5_restore_21 : decode cX5_restore 21 = .ok (.aload_n 0, 1) := by decide +kernel
theorem dX5_restore_22 : decode cX5_restore 22 = .ok (.getfield 10, 3) := by decide +kernel
theorem dX5_restore_25 : decode cX5_restore 25 = .ok (.aload_n 0, 1) := by decide +kernel
theorem dX5_restore_26 : decode cX5_restore 26 = .ok (.getfield 19, 3) := by decide +kernel
theorem dX5_restore_29 : decode cX5_restore 29 = .ok (.invokevirtual 139, 3) := by decide +kernel
theorem dX5_restore_32 : decode cX5_restore 32 = .ok (.aload_n 0, 1) := by decide +kernel
theorem dX5_restore_33 : decode cX5_restore 33 = .ok (.getfield 10, 3) := by decide +kernel
theorem dX5_restore_36 : decode cX5_restore 36 = .ok (.invokevirtual 114, 3) := by decide +kernel
theorem dX5_restore_39 : decode cX5_restore 39 = .ok (.ireturn, 1) := by decide +kernel
theorem dX5_horse_0 : decode cX5_horse 0 = .ok (.iload_n 1, 1) := by decide +kernel
theorem dX5_horse_1 : decode cX5_horse 1 = .ok (.invokestatic 43, 3) := by decide +kernel
theorem dX5_horse_4 : decode cX5_horse 4 = .ok (.ifCond .eq 5, 3) := by decide +kernel
theorem dX5_horse_7 : decode cX5_horse 7 = .ok (.iconst (-1), 1) := by decide +kernel
theorem dX5_horse_8 : decode cX5_horse 8 = .ok (.ireturn, 1) := by decide +kernel
theorem dX5_horse_9 : decode cX5_horse 9 = .ok (.iload_n 2, 1) := by decide +kernel
theorem dX5_horse_10 : decode cX5_horse 10 = .ok (.iconst 0, 1) := by decide +kernel
theorem dX5_horse_11 : decode cX5_horse 11 = .ok (.bipush 8, 2) := by decide +kernel
theorem dX5_horse_13 : decode cX5_horse 13 = .ok (.invokestatic 47, 3) := by decide +kernel
theorem dX5_horse_16 : decode cX5_horse 16 = .ok (.ifCond .eq 8, 3) := by decide +kernel
theorem dX5_horse_19 : decode cX5_horse 19 = .ok (.bipush (-2), 2) := by decide +kernel
theorem dX5_horse_21 : decode cX5_horse 21 = .ok (.goto 12, 3) := by decide +kernel
theorem dX5_horse_24 : decode cX5_horse 24 = .ok (.aload_n 0, 1) := by decide +kernel
theorem dX5_horse_25 : decode cX5_horse 25 = .ok (.getfield 10, 3) := by decide +kernel
theorem dX5_horse_28 : decode cX5_horse 28 = .ok (.iload_n 1, 1) := by decide +kernel
theorem dX5_horse_29 : decode cX5_horse 29 = .ok (.iload_n 2, 1) := by decide +kernel
theorem dX5_horse_30 : decode cX5_horse 30 = .ok (.invokevirtual 51, 3) := by decide +kernel
theorem dX5_horse_33 : decode cX5_horse 33 = .ok (.ireturn, 1) := by decide +kernel
theorem dX5_rider_0 : decode cX5_rider 0 = .ok (.iload_n 1, 1) := by decide +kernel
theorem dX5_rider_1 : decode cX5_rider 1 = .ok (.invokestatic 63, 3) := by decide +kernel
theorem dX5_rider_4 : decode cX5_rider 4 = .ok (.ifCond .eq 5, 3) := by decide +kernel
theorem dX5_rider_7 : decode cX5_rider 7 = .ok (.iconst (-1), 1) := by decide +kernel
theorem dX5_rider_8 : decode cX5_rider 8 = .ok (.ireturn, 1) := by decide +kernel
theorem dX5_rider_9 : decode cX5_rider 9 = .ok (.iload_n 2, 1) := by decide +kernel
theorem dX5_rider_10 : decode cX5_rider 10 = .ok (.iconst 0, 1) := by decide +kernel
theorem dX5_rider_11 : decode cX5_rider 11 = .ok (.bipush 9, 2) := by decide +kernel
theorem dX5_rider_13 : decode cX5_rider 13 = .ok (.invokestatic 47, 3) := by decide +kernel
theorem dX5_rider_16 : decode cX5_rider 16 = .ok (.ifCond .eq 8, 3) := by decide +kernel
theorem dX5_rider_19 : decode cX5_rider 19 = .ok (.bipush (-2), 2) := by decide +kernel
theorem dX5_rider_21 : decode cX5_rider 21 = .ok (.goto 12, 3) := by decide +kernel
theorem dX5_rider_24 : decode cX5_rider 24 = .ok (.aload_n 0, 1) := by decide +kernel
theorem dX5_rider_25 : decode cX5_rider 25 = .ok (.getfield 10, 3) := by decide +kernel
theorem dX5_rider_28 : decode cX5_rider 28 = .ok (.iload_n 1, 1) := by decide +kernel
theorem dX5_rider_29 : decode cX5_rider 29 = .ok (.iload_n 2, 1) := by decide +kernel
theorem dX5_rider_30 : decode cX5_rider 30 = .ok (.invokevirtual 66, 3) := by decide +kernel
theorem dX5_rider_33 : decode cX5_rider 33 = .ok (.ireturn, 1) := by decide +kernel
theorem dX5_lesson_0 : decode cX5_lesson 0 = .ok (.iload_n 2, 1) := by decide +kernel
theorem dX5_lesson_1 : decode cX5_lesson 1 = .ok (.invokestatic 91, 3) := by decide +kernel
theorem dX5_lesson_4 : decode cX5_lesson 4 = .ok (.ifCond .eq 5, 3) := by decide +kernel
theorem dX5_lesson_7 : decode cX5_lesson 7 = .ok (.iconst (-1), 1) := by decide +kernel
theorem dX5_lesson_8 : decode cX5_lesson 8 = .ok (.ireturn, 1) := by decide +kernel
theorem dX5_lesson_9 : decode cX5_lesson 9 = .ok (.iload_n 1, 1) := by decide +kernel
theorem dX5_lesson_10 : decode cX5_lesson 10 = .ok (.iconst 0, 1) := by decide +kernel
theorem dX5_lesson_11 : decode cX5_lesson 11 = .ok (.bipush 99, 2) := by decide +kernel
theorem dX5_lesson_13 : decode cX5_lesson 13 = .ok (.invokestatic 47, 3) := by decide +kernel
theorem dX5_lesson_16 : decode cX5_lesson 16 = .ok (.ifCond .ne 12, 3) := by decide +kernel
theorem dX5_lesson_19 : decode cX5_lesson 19 = .ok (.iload_n 3, 1) := by decide +kernel
theorem dX5_lesson_20 : decode cX5_lesson 20 = .ok (.iconst 0, 1) := by decide +kernel
theorem dX5_lesson_21 : decode cX5_lesson 21 = .ok (.iconst 2, 1) := by decide +kernel
theorem dX5_lesson_22 : decode cX5_lesson 22 = .ok (.invokestatic 47, 3) := by decide +kernel
theorem dX5_lesson_25 : decode cX5_lesson 25 = .ok (.ifCond .eq 6, 3) := by decide +kernel
theorem dX5_lesson_28 : decode cX5_lesson 28 = .ok (.bipush (-2), 2) := by decide +kernel
theorem dX5_lesson_30 : decode cX5_lesson 30 = .ok (.ireturn, 1) := by decide +kernel
theorem dX5_lesson_31 : decode cX5_lesson 31 = .ok (.iload_n 3, 1) := by decide +kernel
theorem dX5_lesson_32 : decode cX5_lesson 32 = .ok (.iconst 2, 1) := by decide +kernel
theorem dX5_lesson_33 : decode cX5_lesson 33 = .ok (.if_icmp .ne 13, 3) := by decide +kernel
theorem dX5_lesson_36 : decode cX5_lesson 36 = .ok (.aload_n 0, 1) := by decide +kernel
theorem dX5_lesson_37 : decode cX5_lesson 37 = .ok (.getfield 10, 3) := by decide +kernel
theorem dX5_lesson_40 : decode cX5_lesson 40 = .ok (.iload_n 1, 1) := by decide +kernel
theorem dX5_lesson_41 : decode cX5_lesson 41 = .ok (.iload_n 2, 1) := by decide +kernel
theorem dX5_lesson_42 : decode cX5_lesson 42 = .ok (.invokevirtual 162, 3) := by decide +kernel
theorem dX5_lesson_45 : decode cX5_lesson 45 = .ok (.ireturn, 1) := by decide +kernel
theorem dX5_lesson_46 : decode cX5_lesson 46 = .ok (.aload_n 0, 1) := by decide +kernel
theorem dX5_lesson_47 : decode cX5_lesson 47 = .ok (.getfield 10, 3) := by decide +kernel
theorem dX5_lesson_50 : decode cX5_lesson 50 = .ok (.iload_n 1, 1) := by decide +kernel
theorem dX5_lesson_51 : decode cX5_lesson 51 = .ok (.iload_n 2, 1) := by decide +kernel
theorem dX5_lesson_52 : decode cX5_lesson 52 = .ok (.invokevirtual 101, 3) := by decide +kernel
theorem dX5_lesson_55 : decode cX5_lesson 55 = .ok (.istore 4, 2) := by decide +kernel
theorem dX5_lesson_57 : decode cX5_lesson 57 = .ok (.iload_n 3, 1) := by decide +kernel
theorem dX5_lesson_58 : decode cX5_lesson 58 = .ok (.ifCond .ne 8, 3) := by decide +kernel
theorem dX5_lesson_61 : decode cX5_lesson 61 = .ok (.iload 4, 2) := by decide +kernel
theorem dX5_lesson_63 : decode cX5_lesson 63 = .ok (.goto 13, 3) := by decide +kernel
theorem dX5_lesson_66 : decode cX5_lesson 66 = .ok (.getstatic 165, 3) := by decide +kernel
theorem dX5_lesson_69 : decode cX5_lesson 69 = .ok (.iload_n 2, 1) := by decide +kernel
theorem dX5_lesson_70 : decode cX5_lesson 70 = .ok (.invokestatic 76, 3) := by decide +kernel
theorem dX5_lesson_73 : decode cX5_lesson 73 = .ok (.iload 4, 2) := by decide +kernel
theorem dX5_lesson_75 : decode cX5_lesson 75 = .ok (.isub, 1) := by decide +kernel
theorem dX5_lesson_76 : decode cX5_lesson 76 = .ok (.ireturn, 1) := by decide +kernel
theorem dX5_fall_0 : decode cX5_fall 0 = .ok (.iload_n 1, 1) := by decide +kernel
theorem dX5_fall_1 : decode cX5_fall 1 = .ok (.ifCond .lt 12, 3) := by decide +kernel
theorem dX5_fall_4 : decode cX5_fall 4 = .ok (.iload_n 2, 1) := by decide +kernel
theorem dX5_fall_5 : decode cX5_fall 5 = .ok (.iconst 0, 1) := by decide +kernel
theorem dX5_fall_6 : decode cX5_fall 6 = .ok (.iconst 2, 1) := by decide +kernel
theorem dX5_fall_7 : decode cX5_fall 7 = .ok (.invokestatic 47, 3) := by decide +kernel
theorem dX5_fall_10 : decode cX5_fall 10 = .ok (.ifCond .eq 6, 3) := by decide +kernel
theorem dX5_fall_13 : decode cX5_fall 13 = .ok (.bipush (-2), 2) := by decide +kernel
theorem dX5_fall_15 : decode cX5_fall 15 = .ok (.ireturn, 1) := by decide +kernel
theorem dX5_fall_16 : decode cX5_fall 16 = .ok (.aload_n 0, 1) := by decide +kernel
theorem dX5_fall_17 : decode cX5_fall 17 = .ok (.getfield 10, 3) := by decide +kernel
theorem dX5_fall_20 : decode cX5_fall 20 = .ok (.iload_n 1, 1) := by decide +kernel
theorem dX5_fall_21 : decode cX5_fall 21 = .ok (.iload_n 2, 1) := by decide +kernel
theorem dX5_fall_22 : decode cX5_fall 22 = .ok (.invokevirtual 168, 3) := by decide +kernel
theorem dX5_fall_25 : decode cX5_fall 25 = .ok (.ireturn, 1) := by decide +kernel
theorem dX5_reason_0 : decode cX5_reason 0 = .ok (.iload_n 1, 1) := by decide +kernel
theorem dX5_reason_1 : decode cX5_reason 1 = .ok (.invokestatic 43, 3) := by decide +kernel
theorem dX5_reason_4 : decode cX5_reason 4 = .ok (.ifCond .ne 10, 3) := by decide +kernel
theorem dX5_reason_7 : decode cX5_reason 7 = .ok (.iload_n 2, 1) := by decide +kernel
theorem dX5_reason_8 : decode cX5_reason 8 = .ok (.invokestatic 63, 3) := by decide +kernel
theorem dX5_reason_11 : decode cX5_reason 11 = .ok (.ifCond .eq 5, 3) := by decide +kernel
theorem dX5_reason_14 : decode cX5_reason 14 = .ok (.iconst (-1), 1) := by decide +kernel
theorem dX5_reason_15 : decode cX5_reason 15 = .ok (.ireturn, 1) := by decide +kernel
theorem dX5_reason_16 : decode cX5_reason 16 = .ok (.aload_n 0, 1) := by decide +kernel
theorem dX5_reason_17 : decode cX5_reason 17 = .ok (.getfield 10, 3) := by decide +kernel
theorem dX5_reason_20 : decode cX5_reason 20 = .ok (.iload_n 1, 1) := by decide +kernel
theorem dX5_reason_21 : decode cX5_reason 21 = .ok (.iload_n 2, 1) := by decide +kernel
theorem dX5_reason_22 : decode cX5_reason 22 = .ok (.aload_n 0, 1) := by decide +kernel
theorem dX5_reason_23 : decode cX5_reason 23 = .ok (.getfield 10, 3) := by decide +kernel
theorem dX5_reason_26 : decode cX5_reason 26 = .ok (.invokevirtual 171, 3) := by decide +kernel
theorem dX5_reason_29 : decode cX5_reason 29 = .ok (.invokevirtual 174, 3) := by decide +kernel
theorem dX5_reason_32 : decode cX5_reason 32 = .ok (.ireturn, 1) := by decide +kernel
theorem dX5_best_0 : decode cX5_best 0 = .ok (.iload_n 1, 1) := by decide +kernel
theorem dX5_best_1 : decode cX5_best 1 = .ok (.invokestatic 63, 3) := by decide +kernel
theorem dX5_best_4 : decode cX5_best 4 = .ok (.ifCond .eq 5, 3) := by decide +kernel
theorem dX5_best_7 : decode cX5_best 7 = .ok (.iconst (-1), 1) := by decide +kernel
theorem dX5_best_8 : decode cX5_best 8 = .ok (.ireturn, 1) := by decide +kernel
theorem dX5_best_9 : decode cX5_best 9 = .ok (.aload_n 0, 1) := by decide +kernel
theorem dX5_best_10 : decode cX5_best 10 = .ok (.getfield 10, 3) := by decide +kernel
theorem dX5_best_13 : decode cX5_best 13 = .ok (.iload_n 1, 1) := by decide +kernel
theorem dX5_best_14 : decode cX5_best 14 = .ok (.aload_n 0, 1) := by decide +kernel
theorem dX5_best_15 : decode cX5_best 15 = .ok (.getfield 10, 3) := by decide +kernel
theorem dX5_best_18 : decode cX5_best 18 = .ok (.invokevirtual 171, 3) := by decide +kernel
theorem dX5_best_21 : decode cX5_best 21 = .ok (.iconst 0, 1) := by decide +kernel
theorem dX5_best_22 : decode cX5_best 22 = .ok (.invokevirtual 177, 3) := by decide +kernel
theorem dX5_best_25 : decode cX5_best 25 = .ok (.ireturn, 1) := by decide +kernel
theorem dX5_takenIn_0 : decode cX5_takenIn 0 = .ok (.iload_n 1, 1) := by decide +kernel
theorem dX5_takenIn_1 : decode cX5_takenIn 1 = .ok (.invokestatic 43, 3) := by decide +kernel
theorem dX5_takenIn_4 : decode cX5_takenIn 4 = .ok (.ifCond .ne 10, 3) := by decide +kernel
theorem dX5_takenIn_7 : decode cX5_takenIn 7 = .ok (.iload_n 2, 1) := by decide +kernel
theorem dX5_takenIn_8 : decode cX5_takenIn 8 = .ok (.invokestatic 63, 3) := by decide +kernel
theorem dX5_takenIn_11 : decode cX5_takenIn 11 = .ok (.ifCond .eq 5, 3) := by decide +kernel
theorem dX5_takenIn_14 : decode cX5_takenIn 14 = .ok (.iconst (-1), 1) := by decide +kernel
theorem dX5_takenIn_15 : decode cX5_takenIn 15 = .ok (.ireturn, 1) := by decide +kernel
theorem dX5_takenIn_16 : decode cX5_takenIn 16 = .ok (.aload_n 0, 1) := by decide +kernel
theorem dX5_takenIn_17 : decode cX5_takenIn 17 = .ok (.getfield 10, 3) := by decide +kernel
theorem dX5_takenIn_20 : decode cX5_takenIn 20 = .ok (.iload_n 1, 1) := by decide +kernel
theorem dX5_takenIn_21 : decode cX5_takenIn 21 = .ok (.iconst 0, 1) := by decide +kernel
theorem dX5_takenIn_22 : decode cX5_takenIn 22 = .ok (.invokevirtual 51, 3) := by decide +kernel
theorem dX5_takenIn_25 : decode cX5_takenIn 25 = .ok (.aload_n 0, 1) := by decide +kernel
theorem dX5_takenIn_26 : decode cX5_takenIn 26 = .ok (.getfield 10, 3) := by decide +kernel
theorem dX5_takenIn_29 : decode cX5_takenIn 29 = .ok (.iload_n 2, 1) := by decide +kernel
theorem dX5_takenIn_30 : decode cX5_takenIn 30 = .ok (.iconst 0, 1) := by decide +kernel
theorem dX5_takenIn_31 : decode cX5_takenIn 31 = .ok (.invokevirtual 66, 3) := by decide +kernel
theorem dX5_takenIn_34 : decode cX5_takenIn 34 = .ok (.if_icmp .ge 6, 3) := by decide +kernel
theorem dX5_takenIn_37 : decode cX5_takenIn 37 = .ok (.bipush (-5), 2) := by decide +kernel
theorem dX5_takenIn_39 : decode cX5_takenIn 39 = .ok (.ireturn, 1) := by decide +kernel
theorem dX5_takenIn_40 : decode cX5_takenIn 40 = .ok (.aload_n 0, 1) := by decide +kernel
theorem dX5_takenIn_41 : decode cX5_takenIn 41 = .ok (.getfield 16, 3) := by decide +kernel
theorem dX5_takenIn_44 : decode cX5_takenIn 44 = .ok (.aload_n 0, 1) := by decide +kernel
theorem dX5_takenIn_45 : decode cX5_takenIn 45 = .ok (.getfield 10, 3) := by decide +kernel
theorem dX5_takenIn_48 : decode cX5_takenIn 48 = .ok (.invokevirtual 139, 3) := by decide +kernel
theorem dX5_takenIn_51 : decode cX5_takenIn 51 = .ok (.iconst 0, 1) := by decide +kernel
theorem dX5_takenIn_52 : decode cX5_takenIn 52 = .ok (.istore_n 3, 1) := by decide +kernel
theorem dX5_takenIn_53 : decode cX5_takenIn 53 = .ok (.iload_n 3, 1) := by decide +kernel
theorem dX5_takenIn_54 : decode cX5_takenIn 54 = .ok (.sipush 200, 3) := by decide +kernel
theorem dX5_takenIn_57 : decode cX5_takenIn 57 = .ok (.if_icmp .gt 38, 3) := by decide +kernel
theorem dX5_takenIn_60 : decode cX5_takenIn 60 = .ok (.aload_n 0, 1) := by decide +kernel
theorem dX5_takenIn_61 : decode cX5_takenIn 61 = .ok (.getfield 16, 3) := by decide +kernel
theorem dX5_takenIn_64 : decode cX5_takenIn 64 = .ok (.iload_n 1, 1) := by decide +kernel
theorem dX5_takenIn_65 : decode cX5_takenIn 65 = .ok (.iload_n 2, 1) := by decide +kernel
theorem dX5_takenIn_66 : decode cX5_takenIn 66 = .ok (.aload_n 0, 1) := by decide +kernel
theorem dX5_takenIn_67 : decode cX5_takenIn 67 = .ok (.getfield 16, 3) := by decide +kernel
theorem dX5_takenIn_70 : decode cX5_takenIn 70 = .ok (.invokevirtual 171, 3) := by decide +kernel
theorem dX5_takenIn_73 : decode cX5_takenIn 73 = .ok (.invokevirtual 174, 3) := by decide +kernel
theorem dX5_takenIn_76 : decode cX5_takenIn 76 = .ok (.ifCond .ne 5, 3) := by decide +kernel
theorem dX5_takenIn_79 : decode cX5_takenIn 79 = .ok (.iload_n 3, 1) := by decide +kernel
theorem dX5_takenIn_80 : decode cX5_takenIn 80 = .ok (.ireturn, 1) := by decide +kernel
theorem dX5_takenIn_81 : decode cX5_takenIn 81 = .ok (.aload_n 0, 1) := by decide +kernel
theorem dX5_takenIn_82 : decode cX5_takenIn 82 = .ok (.getfield 16, 3) := by decide +kernel
theorem dX5_takenIn_85 : decode cX5_takenIn 85 = .ok (.iconst 0, 1) := by decide +kernel
theorem dX5_takenIn_86 : decode cX5_takenIn 86 = .ok (.invokevirtual 121, 3) := by decide +kernel
theorem dX5_takenIn_89 : decode cX5_takenIn 89 = .ok (.iinc 3 1, 3) := by decide +kernel
theorem dX5_takenIn_92 : decode cX5_takenIn 92 = .ok (.goto (-39), 3) := by decide +kernel
theorem dX5_takenIn_95 : decode cX5_takenIn 95 = .ok (.bipush (-5), 2) := by decide +kernel
theorem dX5_takenIn_97 : decode cX5_takenIn 97 = .ok (.ireturn, 1) := by decide +kernel
theorem dX5_ifPassed_0 : decode cX5_ifPassed 0 = .ok (.iload_n 1, 1) := by decide +kernel
theorem dX5_ifPassed_1 : decode cX5_ifPassed 1 = .ok (.iconst 1, 1) := by decide +kernel
theorem dX5_ifPassed_2 : decode cX5_ifPassed 2 = .ok (.bipush 99, 2) := by decide +kernel
theorem dX5_ifPassed_4 : decode cX5_ifPassed 4 = .ok (.invokestatic 47, 3) := by decide +kernel
theorem dX5_ifPassed_7 : decode cX5_ifPassed 7 = .ok (.ifCond .ne 12, 3) := by decide +kernel
theorem dX5_ifPassed_10 : decode cX5_ifPassed 10 = .ok (.iload_n 2, 1) := by decide +kernel
theorem dX5_ifPassed_11 : decode cX5_ifPassed 11 = .ok (.iconst 0, 1) := by decide +kernel
theorem dX5_ifPassed_12 : decode cX5_ifPassed 12 = .ok (.iconst 3, 1) := by decide +kernel
theorem dX5_ifPassed_13 : decode cX5_ifPassed 13 = .ok (.invokestatic 47, 3) := by decide +kernel
theorem dX5_ifPassed_16 : decode cX5_ifPassed 16 = .ok (.ifCond .eq 6, 3) := by decide +kernel
theorem dX5_ifPassed_19 : decode cX5_ifPassed 19 = .ok (.bipush (-2), 2) := by decide +kernel
theorem dX5_ifPassed_21 : decode cX5_ifPassed 21 = .ok (.ireturn, 1) := by decide +kernel
theorem dX5_ifPassed_22 : decode cX5_ifPassed 22 = .ok (.aload_n 0, 1) := by decide +kernel
theorem dX5_ifPassed_23 : decode cX5_ifPassed 23 = .ok (.getfield 16, 3) := by decide +kernel
theorem dX5_ifPassed_26 : decode cX5_ifPassed 26 = .ok (.aload_n 0, 1) := by decide +kernel
theorem dX5_ifPassed_27 : decode cX5_ifPassed 27 = .ok (.getfield 10, 3) := by decide +kernel
theorem dX5_ifPassed_30 : decode cX5_ifPassed 30 = .ok (.invokevirtual 139, 3) := by decide +kernel
theorem dX5_ifPassed_33 : decode cX5_ifPassed 33 = .ok (.iconst 0, 1) := by decide +kernel
theorem dX5_ifPassed_34 : decode cX5_ifPassed 34 = .ok (.istore_n 3, 1) := by decide +kernel
theorem dX5_ifPassed_35 : decode cX5_ifPassed 35 = .ok (.iload_n 3, 1) := by decide +kernel
theorem dX5_ifPassed_36 : decode cX5_ifPassed 36 = .ok (.iload_n 1, 1) := by decide +kernel
theorem dX5_ifPassed_37 : decode cX5_ifPassed 37 = .ok (.if_icmp .ge 17, 3) := by decide +kernel
theorem dX5_ifPassed_40 : decode cX5_ifPassed 40 = .ok (.aload_n 0, 1) := by decide +kernel
theorem dX5_ifPassed_41 : decode cX5_ifPassed 41 = .ok (.getfield 16, 3) := by decide +kernel
theorem dX5_ifPassed_44 : decode cX5_ifPassed 44 = .ok (.iconst 1, 1) := by decide +kernel
theorem dX5_ifPassed_45 : decode cX5_ifPassed 45 = .ok (.invokevirtual 121, 3) := by decide +kernel
theorem dX5_ifPassed_48 : decode cX5_ifPassed 48 = .ok (.iinc 3 1, 3) := by decide +kernel
theorem dX5_ifPassed_51 : decode cX5_ifPassed 51 = .ok (.goto (-16), 3) := by decide +kernel
theorem dX5_ifPassed_54 : decode cX5_ifPassed 54 = .ok (.iload_n 2, 1) := by decide +kernel
theorem dX5_ifPassed_55 : decode cX5_ifPassed 55 = .ok (.tableswitch 81 0 2 #[25, 45, 65], 25) := by decide +kernel
theorem dX5_ifPassed_80 : decode cX5_ifPassed 80 = .ok (.aload_n 0, 1) := by decide +kernel
theorem dX5_ifPassed_81 : decode cX5_ifPassed 81 = .ok (.getfield 16, 3) := by decide +kernel
theorem dX5_ifPassed_84 : decode cX5_ifPassed 84 = .ok (.bipush 6, 2) := by decide +kernel
theorem dX5_ifPassed_86 : decode cX5_ifPassed 86 = .ok (.invokevirtual 118, 3) := by decide +kernel
theorem dX5_ifPassed_89 : decode cX5_ifPassed 89 = .ok (.aload_n 0, 1) := by decide +kernel
theorem dX5_ifPassed_90 : decode cX5_ifPassed 90 = .ok (.getfield 10, 3) := by decide +kernel
theorem dX5_ifPassed_93 : decode cX5_ifPassed 93 = .ok (.bipush 6, 2) := by decide +kernel
theorem dX5_ifPassed_95 : decode cX5_ifPassed 95 = .ok (.invokevirtual 118, 3) := by decide +kernel
theorem dX5_ifPassed_98 : decode cX5_ifPassed 98 = .ok (.isub, 1) := by decide +kernel
theorem dX5_ifPassed_99 : decode cX5_ifPassed 99 = .ok (.ireturn, 1) := by decide +kernel
theorem dX5_ifPassed_100 : decode cX5_ifPassed 100 = .ok (.aload_n 0, 1) := by decide +kernel
theorem dX5_ifPassed_101 : decode cX5_ifPassed 101 = .ok (.getfield 16, 3) := by decide +kernel
theorem dX5_ifPassed_104 : decode cX5_ifPassed 104 = .ok (.bipush 7, 2) := by decide +kernel
theorem dX5_ifPassed_106 : decode cX5_ifPassed 106 = .ok (.invokevirtual 180, 3) := by decide +kernel
theorem dX5_ifPassed_109 : decode cX5_ifPassed 109 = .ok (.aload_n 0, 1) := by decide +kernel
theorem dX5_ifPassed_110 : decode cX5_ifPassed 110 = .ok (.getfield 10, 3) := by decide +kernel
theorem dX5_ifPassed_113 : decode cX5_ifPassed 113 = .ok (.bipush 7, 2) := by decide +kernel
theorem dX5_ifPassed_115 : decode cX5_ifPassed 115 = .ok (.invokevirtual 180, 3) := by decide +kernel
theorem dX5_ifPassed_118 : decode cX5_ifPassed 118 = .ok (.isub, 1) := by decide +kernel
theorem dX5_ifPassed_119 : decode cX5_ifPassed 119 = .ok (.ireturn, 1) := by decide +kernel
theorem dX5_ifPassed_120 : decode cX5_ifPassed 120 = .ok (.aload_n 0, 1) := by decide +kernel
theorem dX5_ifPassed_121 : decode cX5_ifPassed 121 = .ok (.getfield 16, 3) := by decide +kernel
theorem dX5_ifPassed_124 : decode cX5_ifPassed 124 = .ok (.invokevirtual 183, 3) := by decide +kernel
theorem dX5_ifPassed_127 : decode cX5_ifPassed 127 = .ok (.aload_n 0, 1) := by decide +kernel
theorem dX5_ifPassed_128 : decode cX5_ifPassed 128 = .ok (.getfield 10, 3) := by decide +kernel
theorem dX5_ifPassed_131 : decode cX5_ifPassed 131 = .ok (.invokevirtual 183, 3) := by decide +kernel
theorem dX5_ifPassed_134 : decode cX5_ifPassed 134 = .ok (.isub, 1) := by decide +kernel
theorem dX5_ifPassed_135 : decode cX5_ifPassed 135 = .ok (.ireturn, 1) := by decide +kernel
theorem dX5_ifPassed_136 : decode cX5_ifPassed 136 = .ok (.aload_n 0, 1) := by decide +kernel
theorem dX5_ifPassed_137 : decode cX5_ifPassed 137 = .ok (.getfield 16, 3) := by decide +kernel
theorem dX5_ifPassed_140 : decode cX5_ifPassed 140 = .ok (.invokevirtual 186, 3) := by decide +kernel
theorem dX5_ifPassed_143 : decode cX5_ifPassed 143 = .ok (.ireturn, 1) := by decide +kernel
theorem dX5_busiest_0 : decode cX5_busiest 0 = .ok (.iconst 0, 1) := by decide +kernel
theorem dX5_busiest_1 : decode cX5_busiest 1 = .ok (.istore_n 1, 1) := by decide +kernel
theorem dX5_busiest_2 : decode cX5_busiest 2 = .ok (.bipush (-5), 2) := by decide +kernel
theorem dX5_busiest_4 : decode cX5_busiest 4 = .ok (.istore_n 2, 1) := by decide +kernel
theorem dX5_busiest_5 : decode cX5_busiest 5 = .ok (.iconst 0, 1) := by decide +kernel
theorem dX5_busiest_6 : decode cX5_busiest 6 = .ok (.istore_n 3, 1) := by decide +kernel
theorem dX5_busiest_7 : decode cX5_busiest 7 = .ok (.iload_n 3, 1) := by decide +kernel
theorem dX5_busiest_8 : decode cX5_busiest 8 = .ok (.bipush 99, 2) := by decide +kernel
theorem dX5_busiest_10 : decode cX5_busiest 10 = .ok (.if_icmp .gt 30, 3) := by decide +kernel
theorem dX5_busiest_13 : decode cX5_busiest 13 = .ok (.aload_n 0, 1) := by decide +kernel
theorem dX5_busiest_14 : decode cX5_busiest 14 = .ok (.getfield 10, 3) := by decide +kernel
theorem dX5_busiest_17 : decode cX5_busiest 17 = .ok (.iload_n 3, 1) := by decide +kernel
theorem dX5_busiest_18 : decode cX5_busiest 18 = .ok (.invokevirtual 189, 3) := by decide +kernel
theorem dX5_busiest_21 : decode cX5_busiest 21 = .ok (.istore 4, 2) := by decide +kernel
theorem dX5_busiest_23 : decode cX5_busiest 23 = .ok (.iload 4, 2) := by decide +kernel
theorem dX5_busiest_25 : decode cX5_busiest 25 = .ok (.iload_n 1, 1) := by decide +kernel
theorem dX5_busiest_26 : decode cX5_busiest 26 = .ok (.if_icmp .le 8, 3) := by decide +kernel
theorem dX5_busiest_29 : decode cX5_busiest 29 = .ok (.iload 4, 2) := by decide +kernel
theorem dX5_busiest_31 : decode cX5_busiest 31 = .ok (.istore_n 1, 1) := by decide +kernel
theorem dX5_busiest_32 : decode cX5_busiest 32 = .ok (.iload_n 3, 1) := by decide +kernel
theorem dX5_busiest_33 : decode cX5_busiest 33 = .ok (.istore_n 2, 1) := by decide +kernel
theorem dX5_busiest_34 : decode cX5_busiest 34 = .ok (.iinc 3 1, 3) := by decide +kernel
theorem dX5_busiest_37 : decode cX5_busiest 37 = .ok (.goto (-30), 3) := by decide +kernel
theorem dX5_busiest_40 : decode cX5_busiest 40 = .ok (.iload_n 2, 1) := by decide +kernel
theorem dX5_busiest_41 : decode cX5_busiest 41 = .ok (.ireturn, 1) := by decide +kernel
theorem dX5_count_0 : decode cX5_count 0 = .ok (.iload_n 1, 1) := by decide +kernel
theorem dX5_count_1 : decode cX5_count 1 = .ok (.tableswitch 236 0 18 #[91, 99, 110, 121, 129, 139, 147, 157, 165, 175, 184, 200, 208, 208, 208, 208, 208, 220, 228], 91) := by decide +kernel
theorem dX5_count_92 : decode cX5_count 92 = .ok (.aload_n 0, 1) := by decide +kernel
theorem dX5_count_93 : decode cX5_count 93 = .ok (.getfield 10, 3) := by decide +kernel
theorem dX5_count_96 : decode cX5_count 96 = .ok (.invokevirtual 114, 3) := by decide +kernel
theorem dX5_count_99 : decode cX5_count 99 = .ok (.ireturn, 1) := by decide +kernel
theorem dX5_count_100 : decode cX5_count 100 = .ok (.aload_n 0, 1) := by decide +kernel
theorem dX5_count_101 : decode cX5_count 101 = .ok (.getfield 10, 3) := by decide +kernel
theorem dX5_count_104 : decode cX5_count 104 = .ok (.invokevirtual 114, 3) := by decide +kernel
theorem dX5_count_107 : decode cX5_count 107 = .ok (.bipush 10, 2) := by decide +kernel
theorem dX5_count_109 : decode cX5_count 109 = .ok (.idiv, 1) := by decide +kernel
theorem dX5_count_110 : decode cX5_count 110 = .ok (.ireturn, 1) := by decide +kernel
theorem dX5_count_111 : decode cX5_count 111 = .ok (.aload_n 0, 1) := by decide +kernel
theorem dX5_count_112 : decode cX5_count 112 = .ok (.getfield 10, 3) := by decide +kernel
theorem dX5_count_115 : decode cX5_count 115 = .ok (.invokevirtual 114, 3) := by decide +kernel
theorem dX5_count_118 : decode cX5_count 118 = .ok (.bipush 10, 2) := by decide +kernel
theorem dX5_count_120 : decode cX5_count 120 = .ok (.irem, 1) := by decide +kernel
theorem dX5_count_121 : decode cX5_count 121 = .ok (.ireturn, 1) := by decide +kernel
theorem dX5_count_122 : decode cX5_count 122 = .ok (.aload_n 0, 1) := by decide +kernel
theorem dX5_count_123 : decode cX5_count 123 = .ok (.getfield 10, 3) := by decide +kernel
theorem dX5_count_126 : decode cX5_count 126 = .ok (.invokevirtual 192, 3) := by decide +kernel
theorem dX5_count_129 : decode cX5_count 129 = .ok (.ireturn, 1) := by decide +kernel
theorem dX5_count_130 : decode cX5_count 130 = .ok (.aload_n 0, 1) := by decide +kernel
theorem dX5_count_131 : decode cX5_count 131 = .ok (.getfield 10, 3) := by decide +kernel
theorem dX5_count_134 : decode cX5_count 134 = .ok (.bipush 6, 2) := by decide +kernel
theorem dX5_count_136 : decode cX5_count 136 = .ok (.invokevirtual 118, 3) := by decide +kernel
theorem dX5_count_139 : decode cX5_count 139 = .ok (.ireturn, 1) := by decide +kernel
theorem dX5_count_140 : decode cX5_count 140 = .ok (.aload_n 0, 1) := by decide +kernel
theorem dX5_count_141 : decode cX5_count 141 = .ok (.getfield 10, 3) := by decide +kernel
theorem dX5_count_144 : decode cX5_count 144 = .ok (.invokevirtual 183, 3) := by decide +kernel
theorem dX5_count_147 : decode cX5_count 147 = .ok (.ireturn, 1) := by decide +kernel
theorem dX5_count_148 : decode cX5_count 148 = .ok (.aload_n 0, 1) := by decide +kernel
theorem dX5_count_149 : decode cX5_count 149 = .ok (.getfield 10, 3) := by decide +kernel
theorem dX5_count_152 : decode cX5_count 152 = .ok (.bipush 7, 2) := by decide +kernel
theorem dX5_count_154 : decode cX5_count 154 = .ok (.invokevirtual 180, 3) := by decide +kernel
theorem dX5_count_157 : decode cX5_count 157 = .ok (.ireturn, 1) := by decide +kernel
theorem dX5_count_158 : decode cX5_count 158 = .ok (.aload_n 0, 1) := by decide +kernel
theorem dX5_count_159 : decode cX5_count 159 = .ok (.getfield 10, 3) := by decide +kernel
theorem dX5_count_162 : decode cX5_count 162 = .ok (.invokevirtual 186, 3) := by decide +kernel
theorem dX5_count_165 : decode cX5_count 165 = .ok (.ireturn, 1) := by decide +kernel
theorem dX5_count_166 : decode cX5_count 166 = .ok (.aload_n 0, 1) := by decide +kernel
theorem dX5_count_167 : decode cX5_count 167 = .ok (.getfield 10, 3) := by decide +kernel
theorem dX5_count_170 : decode cX5_count 170 = .ok (.bipush 8, 2) := by decide +kernel
theorem dX5_count_172 : decode cX5_count 172 = .ok (.invokevirtual 118, 3) := by decide +kernel
theorem dX5_count_175 : decode cX5_count 175 = .ok (.ireturn, 1) := by decide +kernel
theorem dX5_count_176 : decode cX5_count 176 = .ok (.aload_n 0, 1) := by decide +kernel
theorem dX5_count_177 : decode cX5_count 177 = .ok (.getfield 10, 3) := by decide +kernel
theorem dX5_count_180 : decode cX5_count 180 = .ok (.iconst 2, 1) := by decide +kernel
theorem dX5_count_181 : decode cX5_count 181 = .ok (.invokevirtual 118, 3) := by decide +kernel
theorem dX5_count_184 : decode cX5_count 184 = .ok (.ireturn, 1) := by decide +kernel
theorem dX5_count_185 : decode cX5_count 185 = .ok (.aload_n 0, 1) := by decide +kernel
theorem dX5_count_186 : decode cX5_count 186 = .ok (.getfield 10, 3) := by decide +kernel
theorem dX5_count_189 : decode cX5_count 189 = .ok (.invokevirtual 195, 3) := by decide +kernel
theorem dX5_count_192 : decode cX5_count 192 = .ok (.ifCond .eq 7, 3) := by decide +kernel
theorem dX5_count_195 : decode cX5_count 195 = .ok (.iconst 1, 1) := by decide +kernel
theorem dX5_count_196 : decode cX5_count 196 = .ok (.goto 4, 3) := by decide +kernel
theorem dX5_count_199 : decode cX5_count 199 = .ok (.iconst 0, 1) := by decide +kernel
theorem dX5_count_200 : decode cX5_count 200 = .ok (.ireturn, 1) := by decide +kernel
theorem dX5_count_201 : decode cX5_count 201 = .ok (.aload_n 0, 1) := by decide +kernel
theorem dX5_count_202 : decode cX5_count 202 = .ok (.getfield 10, 3) := by decide +kernel
theorem dX5_count_205 : decode cX5_count 205 = .ok (.invokevirtual 171, 3) := by decide +kernel
theorem dX5_count_208 : decode cX5_count 208 = .ok (.ireturn, 1) := by decide +kernel
theorem dX5_count_209 : decode cX5_count 209 = .ok (.aload_n 0, 1) := by decide +kernel
theorem dX5_count_210 : decode cX5_count 210 = .ok (.getfield 10, 3) := by decide +kernel
theorem dX5_count_213 : decode cX5_count 213 = .ok (.iload_n 1, 1) := by decide +kernel
theorem dX5_count_214 : decode cX5_count 214 = .ok (.bipush 12, 2) := by decide +kernel
theorem dX5_count_216 : decode cX5_count 216 = .ok (.isub, 1) := by decide +kernel
theorem dX5_count_217 : decode cX5_count 217 = .ok (.invokevirtual 83, 3) := by decide +kernel
theorem dX5_count_220 : decode cX5_count 220 = .ok (.ireturn, 1) := by decide +kernel
theorem dX5_count_221 : decode cX5_count 221 = .ok (.aload_n 0, 1) := by decide +kernel
theorem dX5_count_222 : decode cX5_count 222 = .ok (.getfield 25, 3) := by decide +kernel
theorem dX5_count_225 : decode cX5_count 225 = .ok (.invokevirtual 154, 3) := by decide +kernel
theorem dX5_count_228 : decode cX5_count 228 = .ok (.ireturn, 1) := by decide +kernel
theorem dX5_count_229 : decode cX5_count 229 = .ok (.aload_n 0, 1) := by decide +kernel
theorem dX5_count_230 : decode cX5_count 230 = .ok (.getfield 32, 3) := by decide +kernel
theorem dX5_count_233 : decode cX5_count 233 = .ok (.invokevirtual 129, 3) := by decide +kernel
theorem dX5_count_236 : decode cX5_count 236 = .ok (.ireturn, 1) := by decide +kernel
theorem dX5_count_237 : decode cX5_count 237 = .ok (.bipush (-2), 2) := by decide +kernel
theorem dX5_count_239 : decode cX5_count 239 = .ok (.ireturn, 1) := by decide +kernel
theorem dX5_isOutside_0 : decode cX5_isOutside 0 = .ok (.iload_n 0, 1) := by decide +kernel
theorem dX5_isOutside_1 : decode cX5_isOutside 1 = .ok (.iload_n 1, 1) := by decide +kernel
theorem dX5_isOutside_2 : decode cX5_isOutside 2 = .ok (.if_icmp .lt 8, 3) := by decide +kernel
theorem dX5_isOutside_5 : decode cX5_isOutside 5 = .ok (.iload_n 0, 1) := by decide +kernel
theorem dX5_isOutside_6 : decode cX5_isOutside 6 = .ok (.iload_n 2, 1) := by decide +kernel
theorem dX5_isOutside_7 : decode cX5_isOutside 7 = .ok (.if_icmp .le 7, 3) := by decide +kernel
theorem dX5_isOutside_10 : decode cX5_isOutside 10 = .ok (.iconst 1, 1) := by decide +kernel
theorem dX5_isOutside_11 : decode cX5_isOutside 11 = .ok (.goto 4, 3) := by decide +kernel
theorem dX5_isOutside_14 : decode cX5_isOutside 14 = .ok (.iconst 0, 1) := by decide +kernel
theorem dX5_isOutside_15 : decode cX5_isOutside 15 = .ok (.ireturn, 1) := by decide +kernel
theorem dX5_isNoHorse_0 : decode cX5_isNoHorse 0 = .ok (.iload_n 0, 1) := by decide +kernel
theorem dX5_isNoHorse_1 : decode cX5_isNoHorse 1 = .ok (.iconst 0, 1) := by decide +kernel
theorem dX5_isNoHorse_2 : decode cX5_isNoHorse 2 = .ok (.bipush 9, 2) := by decide +kernel
theorem dX5_isNoHorse_4 : decode cX5_isNoHorse 4 = .ok (.invokestatic 47, 3) := by decide +kernel
theorem dX5_isNoHorse_7 : decode cX5_isNoHorse 7 = .ok (.ireturn, 1) := by decide +kernel
theorem dX5_isNoRider_0 : decode cX5_isNoRider 0 = .ok (.iload_n 0, 1) := by decide +kernel
theorem dX5_isNoRider_1 : decode cX5_isNoRider 1 = .ok (.iconst 0, 1) := by decide +kernel
theorem dX5_isNoRider_2 : decode cX5_isNoRider 2 = .ok (.bipush 11, 2) := by decide +kernel
theorem dX5_isNoRider_4 : decode cX5_isNoRider 4 = .ok (.invokestatic 47, 3) := by decide +kernel
theorem dX5_isNoRider_7 : decode cX5_isNoRider 7 = .ok (.ireturn, 1) := by decide +kernel
theorem dX5_isNoRing_0 : decode cX5_isNoRing 0 = .ok (.iload_n 0, 1) := by decide +kernel
theorem dX5_isNoRing_1 : decode cX5_isNoRing 1 = .ok (.iconst 0, 1) := by decide +kernel
theorem dX5_isNoRing_2 : decode cX5_isNoRing 2 = .ok (.iconst 2, 1) := by decide +kernel
theorem dX5_isNoRing_3 : decode cX5_isNoRing 3 = .ok (.invokestatic 47, 3) := by decide +kernel
theorem dX5_isNoRing_6 : decode cX5_isNoRing 6 = .ok (.ireturn, 1) := by decide +kernel
theorem dX5_entry_0 : decode cX5_entry 0 = .ok (.iload_n 1, 1) := by decide +kernel
theorem dX5_entry_1 : decode cX5_entry 1 = .ok (.ifCond .lt 15, 3) := by decide +kernel
theorem dX5_entry_4 : decode cX5_entry 4 = .ok (.iload_n 1, 1) := by decide +kernel
theorem dX5_entry_5 : decode cX5_entry 5 = .ok (.aload_n 0, 1) := by decide +kernel
theorem dX5_entry_6 : decode cX5_entry 6 = .ok (.arraylength, 1) := by decide +kernel
theorem dX5_entry_7 : decode cX5_entry 7 = .ok (.if_icmp .ge 9, 3) := by decide +kernel
theorem dX5_entry_10 : decode cX5_entry 10 = .ok (.aload_n 0, 1) := by decide +kernel
theorem dX5_entry_11 : decode cX5_entry 11 = .ok (.iload_n 1, 1) := by decide +kernel
theorem dX5_entry_12 : decode cX5_entry 12 = .ok (.iaload, 1) := by decide +kernel
theorem dX5_entry_13 : decode cX5_entry 13 = .ok (.goto 4, 3) := by decide +kernel
theorem dX5_entry_16 : decode cX5_entry 16 = .ok (.iconst 0, 1) := by decide +kernel
theorem dX5_entry_17 : decode cX5_entry 17 = .ok (.ireturn, 1) := by decide +kernel
theorem dX6_init_0 : decode cX6_init 0 = .ok (.aload_n 0, 1) := by decide +kernel
theorem dX6_init_1 : decode cX6_init 1 = .ok (.invokespecial 1, 3) := by decide +kernel
theorem dX6_init_4 : decode cX6_init 4 = .ok (.aload_n 0, 1) := by decide +kernel
theorem dX6_init_5 : decode cX6_init 5 = .ok (.sipush 378, 3) := by decide +kernel
theorem dX6_init_8 : decode cX6_init 8 = .ok (.newarray .int, 2) := by decide +kernel
theorem dX6_init_10 : decode cX6_init 10 = .ok (.putfield 7, 3) := by decide +kernel
theorem dX6_init_13 : decode cX6_init 13 = .ok (.aload_n 0, 1) := by decide +kernel
theorem dX6_init_14 : decode cX6_init 14 = .ok (.sipush 378, 3) := by decide +kernel
theorem dX6_init_17 : decode cX6_init 17 = .ok (.newarray .int, 2) := by decide +kernel
theorem dX6_init_19 : decode cX6_init 19 = .ok (.putfield 13, 3) := by decide +kernel
theorem dX6_init_22 : decode cX6_init 22 = .ok (.aload_n 0, 1) := by decide +kernel
theorem dX6_init_23 : decode cX6_init 23 = .ok (.sipush 1512, 3) := by decide +kernel
theorem dX6_init_26 : decode cX6_init 26 = .ok (.newarray .int, 2) := by decide +kernel
theorem dX6_init_28 : decode cX6_init 28 = .ok (.putfield 16, 3) := by decide +kernel
theorem dX6_init_31 : decode cX6_init 31 = .ok (.aload_n 0, 1) := by decide +kernel
theorem dX6_init_32 : decode cX6_init 32 = .ok (.sipush 378, 3) := by decide +kernel
theorem dX6_init_35 : decode cX6_init 35 = .ok (.newarray .int, 2) := by decide +kernel
theorem dX6_init_37 : decode cX6_init 37 = .ok (.putfield 19, 3) := by decide +kernel
theorem dX6_init_40 : decode cX6_init 40 = .ok (.aload_n 0, 1) := by decide +kernel
theorem dX6_init_41 : decode cX6_init 41 = .ok (.bipush 60, 2) := by decide +kernel
theorem dX6_init_43 : decode cX6_init 43 = .ok (.newarray .int, 2) := by decide +kernel
theorem dX6_init_45 : decode cX6_init 45 = .ok (.putfield 22, 3) := by decide +kernel
theorem dX6_init_48 : decode cX6_init 48 = .ok (.aload_n 0, 1) := by decide +kernel
theorem dX6_init_49 : decode cX6_init 49 = .ok (.bipush 10, 2) := by decide +kernel
theorem dX6_init_51 : decode cX6_init 51 = .ok (.newarray .int, 2) := by decide +kernel
theorem dX6_init_53 : decode cX6_init 53 = .ok (.putfield 25, 3) := by decide +kernel
theorem dX6_init_56 : decode cX6_init 56 = .ok (.aload_n 0, 1) := by decide +kernel
theorem dX6_init_57 : decode cX6_init 57 = .ok (.bipush 10, 2) := by decide +kernel
theorem dX6_init_59 : decode cX6_init 59 = .ok (.newarray .int, 2) := by decide +kernel
theorem dX6_init_61 : decode cX6_init 61 = .ok (.putfield 28, 3) := by decide +kernel
theorem dX6_init_64 : decode cX6_init 64 = .ok (.iconst 0, 1) := by decide +kernel
theorem dX6_init_65 : decode cX6_init 65 = .ok (.istore_n 1, 1) := by decide +kernel
theorem dX6_init_66 : decode cX6_init 66 = .ok (.iload_n 1, 1) := by decide +kernel
theorem dX6_init_67 : decode cX6_init 67 = .ok (.bipush 10, 2) := by decide +kernel
theorem dX6_init_69 : decode cX6_init 69 = .ok (.if_icmp .ge 38, 3) := by decide +kernel
theorem dX6_init_72 : decode cX6_init 72 = .ok (.aload_n 0, 1) := by decide +kernel
theorem dX6_init_73 : decode cX6_init 73 = .ok (.getfield 7, 3) := by decide +kernel
theorem dX6_init_76 : decode cX6_init 76 = .ok (.iload_n 1, 1) := by decide +kernel
theorem dX6_init_77 : decode cX6_init 77 = .ok (.iconst 0, 1) := by decide +kernel
theorem dX6_init_78 : decode cX6_init 78 = .ok (.invokestatic 31, 3) := by decide +kernel
theorem dX6_init_81 : decode cX6_init 81 = .ok (.bipush 80, 2) := by decide +kernel
theorem dX6_init_83 : decode cX6_init 83 = .ok (.iconst 5, 1) := by decide +kernel
theorem dX6_init_84 : decode cX6_init 84 = .ok (.iload_n 1, 1) := by decide +kernel
theorem dX6_init_85 : decode cX6_init 85 = .ok (.imul, 1) := by decide +kernel
theorem dX6_init_86 : decode cX6_init 86 = .ok (.iadd, 1) := by decide +kernel
theorem dX6_init_87 : decode cX6_init 87 = .ok (.iastore, 1) := by decide +kernel
theorem dX6_init_88 : decode cX6_init 88 = .ok (.aload_n 0, 1) := by decide +kernel
theorem dX6_init_89 : decode cX6_init 89 = .ok (.getfield 7, 3) := by decide +kernel
theorem dX6_init_92 : decode cX6_init 92 = .ok (.iload_n 1, 1) := by decide +kernel
theorem dX6_init_93 : decode cX6_init 93 = .ok (.iconst 1, 1) := by decide +kernel
theorem dX6_init_94 : decode cX6_init 94 = .ok (.invokestatic 31, 3) := by decide +kernel
theorem dX6_init_97 : decode cX6_init 97 = .ok (.iload_n 1, 1) := by decide +kernel
theorem dX6_init_98 : decode cX6_init 98 = .ok (.iconst 4, 1) := by decide +kernel
theorem dX6_init_99 : decode cX6_init 99 = .ok (.irem, 1) := by decide +kernel
theorem dX6_init_100 : decode cX6_init 100 = .ok (.iastore, 1) := by decide +kernel
theorem dX6_init_101 : decode cX6_init 101 = .ok (.iinc 1 1, 3) := by decide +kernel
theorem dX6_init_104 : decode cX6_init 104 = .ok (.goto (-38), 3) := by decide +kernel
theorem dX6_init_107 : decode cX6_init 107 = .ok (.iconst 0, 1) := by decide +kernel
theorem dX6_init_108 : decode cX6_init 108 = .ok (.istore_n 1, 1) := by decide +kernel
theorem dX6_init_109 : decode cX6_init 109 = .ok (.iload_n 1, 1) := by decide +kernel
theorem dX6_init_110 : decode cX6_init 110 = .ok (.bipush 12, 2) := by decide +kernel
theorem dX6_init_112 : decode cX6_init 112 = .ok (.if_icmp .ge 50, 3) := by decide +kernel
theorem dX6_init_115 : decode cX6_init 115 = .ok (.aload_n 0, 1) := by decide +kernel
theorem dX6_init_116 : decode cX6_init 116 = .ok (.getfield 7, 3) := by decide +kernel
theorem dX6_init_119 : decode cX6_init 119 = .ok (.iload_n 1, 1) := by decide +kernel
theorem dX6_init_120 : decode cX6_init 120 = .ok (.iconst 0, 1) := by decide +kernel
theorem dX6_init_121 : decode cX6_init 121 = .ok (.invokestatic 35, 3) := by decide +kernel
theorem dX6_init_124 : decode cX6_init 124 = .ok (.bipush 40, 2) := by decide +kernel
theorem dX6_init_126 : decode cX6_init 126 = .ok (.bipush 6, 2) := by decide +kernel
theorem dX6_init_128 : decode cX6_init 128 = .ok (.iload_n 1, 1) := by decide +kernel
theorem dX6_init_129 : decode cX6_init 129 = .ok (.imul, 1) := by decide +kernel
theorem dX6_init_130 : decode cX6_init 130 = .ok (.iadd, 1) := by decide +kernel
theorem dX6_init_131 : decode cX6_init 131 = .ok (.iastore, 1) := by decide +kernel
theorem dX6_init_132 : decode cX6_init 132 = .ok (.aload_n 0, 1) := by decide +kernel
theorem dX6_init_133 : decode cX6_init 133 = .ok (.getfield 7, 3) := by decide +kernel
theorem dX6_init_136 : decode cX6_init 136 = .ok (.iload_n 1, 1) := by decide +kernel
theorem dX6_init_137 : decode cX6_init 137 = .ok (.iconst 1, 1) := by decide +kernel
theorem dX6_init_138 : decode cX6_init 138 = .ok (.invokestatic 35, 3) := by decide +kernel
theorem dX6_init_141 : decode cX6_init 141 = .ok (.iconst 1, 1) := by decide +kernel
theorem dX6_init_142 : decode cX6_init 142 = .ok (.iastore, 1) := by decide +kernel
theorem dX6_init_143 : decode cX6_init 143 = .ok (.aload_n 0, 1) := by decide +kernel
theorem dX6_init_144 : decode cX6_init 144 = .ok (.getfield 7, 3) := by decide +kernel
theorem dX6_init_147 : decode cX6_init 147 = .ok (.iload_n 1, 1) := by decide +kernel
theorem dX6_init_148 : decode cX6_init 148 = .ok (.bipush 7, 2) := by decide +kernel
theorem dX6_init_150 : decode cX6_init 150 = .ok (.invokestatic 35, 3) := by decide +kernel
theorem dX6_init_153 : decode cX6_init 153 = .ok (.bipush (-5), 2) := by decide +kernel
theorem dX6_init_155 : decode cX6_init 155 = .ok (.iastore, 1) := by decide +kernel
theorem dX6_init_156 : decode cX6_init 156 = .ok (.iinc 1 1, 3) := by decide +kernel
theorem dX6_init_159 : decode cX6_init 159 = .ok (.goto (-50), 3) := by decide +kernel
theorem dX6_init_162 : decode cX6_init 162 = .ok (.aload_n 0, 1) := by decide +kernel
theorem dX6_init_163 : decode cX6_init 163 = .ok (.getfield 7, 3) := by decide +kernel
theorem dX6_init_166 : decode cX6_init 166 = .ok (.sipush 187, 3) := by decide +kernel
theorem dX6_init_169 : decode cX6_init 169 = .ok (.iconst 3, 1) := by decide +kernel
theorem dX6_init_170 : decode cX6_init 170 = .ok (.iastore, 1) := by decide +kernel
theorem dX6_init_171 : decode cX6_init 171 = .ok (.aload_n 0, 1) := by decide +kernel
theorem dX6_init_172 : decode cX6_init 172 = .ok (.getfield 7, 3) := by decide +kernel
theorem dX6_init_175 : decode cX6_init 175 = .ok (.sipush 188, 3) := by decide +kernel
theorem dX6_init_178 : decode cX6_init 178 = .ok (.bipush 12, 2) := by decide +kernel
theorem dX6_init_180 : decode cX6_init 180 = .ok (.iastore, 1) := by decide +kernel
theorem dX6_init_181 : decode cX6_init 181 = .ok (.aload_n 0, 1) := by decide +kernel
theorem dX6_init_182 : decode cX6_init 182 = .ok (.getfield 7, 3) := by decide +kernel
theorem dX6_init_185 : decode cX6_init 185 = .ok (.sipush 189, 3) := by decide +kernel
theorem dX6_init_188 : decode cX6_init 188 = .ok (.iconst 5, 1) := by decide +kernel
theorem dX6_init_189 : decode cX6_init 189 = .ok (.iastore, 1) := by decide +kernel
theorem dX6_init_190 : decode cX6_init 190 = .ok (.aload_n 0, 1) := by decide +kernel
theorem dX6_init_191 : decode cX6_init 191 = .ok (.getfield 7, 3) := by decide +kernel
theorem dX6_init_194 : decode cX6_init 194 = .ok (.sipush 190, 3) := by decide +kernel
theorem dX6_init_197 : decode cX6_init 197 = .ok (.bipush 20, 2) := by decide +kernel
theorem dX6_init_199 : decode cX6_init 199 = .ok (.iastore, 1) := by decide +kernel
theorem dX6_init_200 : decode cX6_init 200 = .ok (.aload_n 0, 1) := by decide +kernel
theorem dX6_init_201 : decode cX6_init 201 = .ok (.getfield 7, 3) := by decide +kernel
theorem dX6_init_204 : decode cX6_init 204 = .ok (.sipush 191, 3) := by decide +kernel
theorem dX6_init_207 : decode cX6_init 207 = .ok (.iconst 3, 1) := by decide +kernel
theorem dX6_init_208 : decode cX6_init 208 = .ok (.iastore, 1) := by decide +kernel
theorem dX6_init_209 : decode cX6_init 209 = .ok (.return_, 1) := by decide +kernel
theorem dX6_in_0 : decode cX6_in 0 = .ok (.iload_n 0, 1) := by decide +kernel
theorem dX6_in_1 : decode cX6_in 1 = .ok (.iload_n 1, 1) := by decide +kernel
theorem dX6_in_2 : decode cX6_in 2 = .ok (.if_icmp .lt 12, 3) := by decide +kernel
theorem dX6_in_5 : decode cX6_in 5 = .ok (.iload_n 0, 1) := by decide +kernel
theorem dX6_in_6 : decode cX6_in 6 = .ok (.iload_n 2, 1) := by decide +kernel
theorem dX6_in_7 : decode cX6_in 7 = .ok (.if_icmp .gt 7, 3) := by decide +kernel
theorem dX6_in_10 : decode cX6_in 10 = .ok (.iconst 1, 1) := by decide +kernel
theorem dX6_in_11 : decode cX6_in 11 = .ok (.goto 4, 3) := by decide +kernel
theorem dX6_in_14 : decode cX6_in 14 = .ok (.iconst 0, 1) := by decide +kernel
theorem dX6_in_15 : decode cX6_in 15 = .ok (.ireturn, 1) := by decide +kernel
theorem dX6_isHorse_0 : decode cX6_isHorse 0 = .ok (.iload_n 0, 1) := by decide +kernel
theorem dX6_isHorse_1 : decode cX6_isHorse 1 = .ok (.iconst 0, 1) := by decide +kernel
theorem dX6_isHorse_2 : decode cX6_isHorse 2 = .ok (.bipush 9, 2) := by decide +kernel
theorem dX6_isHorse_4 : decode cX6_isHorse 4 = .ok (.invokestatic 38, 3) := by decide +kernel
theorem dX6_isHorse_7 : decode cX6_isHorse 7 = .ok (.ireturn, 1) := by decide +kernel
theorem dX6_isRider_0 : decode cX6_isRider 0 = .ok (.iload_n 0, 1) := by decide +kernel
theorem dX6_isRider_1 : decode cX6_isRider 1 = .ok (.iconst 0, 1) := by decide +kernel
theorem dX6_isRider_2 : decode cX6_isRider 2 = .ok (.bipush 11, 2) := by decide +kernel
theorem dX6_isRider_4 : decode cX6_isRider 4 = .ok (.invokestatic 38, 3) := by decide +kernel
theorem dX6_isRider_7 : decode cX6_isRider 7 = .ok (.ireturn, 1) := by decide +kernel
theorem dX6_isRing_0 : decode cX6_isRing 0 = .ok (.iload_n 0, 1) := by decide +kernel
theorem dX6_isRing_1 : decode cX6_isRing 1 = .ok (.iconst 0, 1) := by decide +kernel
theorem dX6_isRing_2 : decode cX6_isRing 2 = .ok (.iconst 2, 1) := by decide +kernel
theorem dX6_isRing_3 : decode cX6_isRing 3 = .ok (.invokestatic 38, 3) := by decide +kernel
theorem dX6_isRing_6 : decode cX6_isRing 6 = .ok (.ireturn, 1) := by decide +kernel
theorem dX6_isAhead_0 : decode cX6_isAhead 0 = .ok (.iload_n 0, 1) := by decide +kernel
theorem dX6_isAhead_1 : decode cX6_isAhead 1 = .ok (.iconst 0, 1) := by decide +kernel
theorem dX6_isAhead_2 : decode cX6_isAhead 2 = .ok (.bipush 99, 2) := by decide +kernel
theorem dX6_isAhead_4 : decode cX6_isAhead 4 = .ok (.invokestatic 38, 3) := by decide +kernel
theorem dX6_isAhead_7 : decode cX6_isAhead 7 = .ok (.ireturn, 1) := by decide +kernel
theorem dX6_of_0 : decode cX6_of 0 = .ok (.iconst 1, 1) := by decide +kernel
theorem dX6_of_1 : decode cX6_of 1 = .ok (.bipush 9, 2) := by decide +kernel
theorem dX6_of_3 : decode cX6_of 3 = .ok (.iload_n 0, 1) := by decide +kernel
theorem dX6_of_4 : decode cX6_of 4 = .ok (.imul, 1) := by decide +kernel
theorem dX6_of_5 : decode cX6_of 5 = .ok (.iadd, 1) := by decide +kernel
theorem dX6_of_6 : decode cX6_of 6 = .ok (.iload_n 1, 1) := by decide +kernel
theorem dX6_of_7 : decode cX6_of 7 = .ok (.iadd, 1) := by decide +kernel
theorem dX6_of_8 : decode cX6_of 8 = .ok (.ireturn, 1) := by decide +kernel
theorem dX6_ofRider_0 : decode cX6_ofRider 0 = .ok (.bipush 91, 2) := by decide +kernel
theorem dX6_ofRider_2 : decode cX6_ofRider 2 = .ok (.bipush 8, 2) := by decide +kernel
theorem dX6_ofRider_4 : decode cX6_ofRider 4 = .ok (.iload_n 0, 1) := by decide +kernel
theorem dX6_ofRider_5 : decode cX6_ofRider 5 = .ok (.imul, 1) := by decide +kernel
theorem dX6_ofRider_6 : decode cX6_ofRider 6 = .ok (.iadd, 1) := by decide +kernel
theorem dX6_ofRider_7 : decode cX6_ofRider 7 = .ok (.iload_n 1, 1) := by decide +kernel
theorem dX6_ofRider_8 : decode cX6_ofRider 8 = .ok (.iadd, 1) := by decide +kernel
theorem dX6_ofRider_9 : decode cX6_ofRider 9 = .ok (.ireturn, 1) := by decide +kernel
theorem dX6_ofBooking_0 : decode cX6_ofBooking 0 = .ok (.sipush 193, 3) := by decide +kernel
theorem dX6_ofBooking_3 : decode cX6_ofBooking 3 = .ok (.iconst 3, 1) := by decide +kernel
theorem dX6_ofBooking_4 : decode cX6_ofBooking 4 = .ok (.iload_n 0, 1) := by decide +kernel
theorem dX6_ofBooking_5 : decode cX6_ofBooking 5 = .ok (.imul, 1) := by decide +kernel
theorem dX6_ofBooking_6 : decode cX6_ofBooking 6 = .ok (.iadd, 1) := by decide +kernel
theorem dX6_ofBooking_7 : decode cX6_ofBooking 7 = .ok (.iload_n 1, 1) := by decide +kernel
theorem dX6_ofBooking_8 : decode cX6_ofBooking 8 = .ok (.iadd, 1) := by decide +kernel
theorem dX6_ofBooking_9 : decode cX6_ofBooking 9 = .ok (.ireturn, 1) := by decide +kernel
theorem dX6_record_0 : decode cX6_record 0 = .ok (.aload_n 0, 1) := by decide +kernel
theorem dX6_record_1 : decode cX6_record 1 = .ok (.getfield 42, 3) := by decide +kernel
theorem dX6_record_4 : decode cX6_record 4 = .ok (.iconst 4, 1) := by decide +kernel
theorem dX6_record_5 : decode cX6_record 5 = .ok (.if_icmp .ne 44, 3) := by decide +kernel
theorem dX6_record_8 : decode cX6_record 8 = .ok (.iconst 0, 1) := by decide +kernel
theorem dX6_record_9 : decode cX6_record 9 = .ok (.istore_n 1, 1) := by decide +kernel
theorem dX6_record_10 : decode cX6_record 10 = .ok (.iload_n 1, 1) := by decide +kernel
theorem dX6_record_11 : decode cX6_record 11 = .ok (.sipush 1134, 3) := by decide +kernel
theorem dX6_record_14 : decode cX6_record 14 = .ok (.if_icmp .ge 25, 3) := by decide +kernel
theorem dX6_record_17 : decode cX6_record 17 = .ok (.aload_n 0, 1) := by decide +kernel
theorem dX6_record_18 : decode cX6_record 18 = .ok (.getfield 16, 3) := by decide +kernel
theorem dX6_record_21 : decode cX6_record 21 = .ok (.iload_n 1, 1) := by decide +kernel
theorem dX6_record_22 : decode cX6_record 22 = .ok (.aload_n 0, 1) := by decide +kernel
theorem dX6_record_23 : decode cX6_record 23 = .ok (.getfield 16, 3) := by decide +kernel
theorem dX6_record_26 : decode cX6_record 26 = .ok (.iload_n 1, 1) := by decide +kernel
theorem dX6_record_27 : decode cX6_record 27 = .ok (.sipush 378, 3) := by decide +kernel
theorem dX6_record_30 : decode cX6_record 30 = .ok (.iadd, 1) := by decide +kernel
theorem dX6_record_31 : decode cX6_record 31 = .ok (.iaload, 1) := by decide +kernel
theorem dX6_record_32 : decode cX6_record 32 = .ok (.iastore, 1) := by decide +kernel
theorem dX6_record_33 : decode cX6_record 33 = .ok (.iinc 1 1, 3) := by decide +kernel
theorem dX6_record_36 : decode cX6_record 36 = .ok (.goto (-26), 3) := by decide +kernel
theorem dX6_record_39 : decode cX6_record 39 = .ok (.aload_n 0, 1) := by decide +kernel
theorem dX6_record_40 : decode cX6_record 40 = .ok (.dup, 1) := by decide +kernel
theorem dX6_record_41 : decode cX6_record 41 = .ok (.getfield 42, 3) := by decide +kernel
theorem dX6_record_44 : decode cX6_record 44 = .ok (.iconst 1, 1) := by decide +kernel
theorem dX6_record_45 : decode cX6_record 45 = .ok (.isub, 1) := by decide +kernel
theorem dX6_record_46 : decode cX6_record 46 = .ok (.putfield 42, 3) := by decide +kernel
theorem dX6_record_49 : decode cX6_record 49 = .ok (.iconst 0, 1) := by decide +kernel
theorem dX6_record_50 : decode cX6_record 50 = .ok (.istore_n 1, 1) := by decide +kernel
theorem dX6_record_51 : decode cX6_record 51 = .ok (.iload_n 1, 1) := by decide +kernel
theorem dX6_record_52 : decode cX6_record 52 = .ok (.sipush 378, 3) := by decide +kernel
theorem dX6_record_55 : decode cX6_record 55 = .ok (.if_icmp .ge 30, 3) := by decide +kernel
theorem dX6_record_58 : decode cX6_record 58 = .ok (.aload_n 0, 1) := by decide +kernel
theorem dX6_record_59 : decode cX6_record 59 = .ok (.getfield 16, 3) := by decide +kernel
theorem dX6_record_62 : decode cX6_record 62 = .ok (.sipush 378, 3) := by decide +kernel
theorem dX6_record_65 : decode cX6_record 65 = .ok (.aload_n 0, 1) := by decide +kernel
theorem dX6_record_66 : decode cX6_record 66 = .ok (.getfield 42, 3) := by decide +kernel
theorem dX6_record_69 : decode cX6_record 69 = .ok (.imul, 1) := by decide +kernel
theorem dX6_record_70 : decode cX6_record 70 = .ok (.iload_n 1, 1) := by decide +kernel
theorem dX6_record_71 : decode cX6_record 71 = .ok (.iadd, 1) := by decide +kernel
theorem dX6_record_72 : decode cX6_record 72 = .ok (.aload_n 0, 1) := by decide +kernel
theorem dX6_record_73 : decode cX6_record 73 = .ok (.getfield 7, 3) := by decide +kernel
theorem dX6_record_76 : decode cX6_record 76 = .ok (.iload_n 1, 1) := by decide +kernel
theorem dX6_record_77 : decode cX6_record 77 = .ok (.iaload, 1) := by decide +kernel
theorem dX6_record_78 : decode cX6_record 78 = .ok (.iastore, 1) := by decide +kernel
theorem dX6_record_79 : decode cX6_record 79 = .ok (.iinc 1 1, 3) := by decide +kernel
theorem dX6_record_82 : decode cX6_record 82 = .ok (.goto (-31), 3) := by decide +kernel
theorem dX6_record_85 : decode cX6_record 85 = .ok (.aload_n 0, 1) := by decide +kernel
theorem dX6_record_86 : decode cX6_record 86 = .ok (.dup, 1) := by decide +kernel
theorem dX6_record_87 : decode cX6_record 87 = .ok (.getfield 42, 3) := by decide +kernel
theorem dX6_record_90 : decode cX6_record 90 = .ok (.iconst 1, 1) := by decide +kernel
theorem dX6_record_91 : decode cX6_record 91 = .ok (.iadd, 1) := by decide +kernel
theorem dX6_record_92 : decode cX6_record 92 = .ok (.putfield 42, 3) := by decide +kernel
theorem dX6_record_95 : decode cX6_record 95 = .ok (.return_, 1) := by decide +kernel
theorem dX6_putAside_0 : decode cX6_putAside 0 = .ok (.iconst 0, 1) := by decide +kernel
theorem dX6_putAside_1 : decode cX6_putAside 1 = .ok (.istore_n 1, 1) := by decide +kernel
theorem dX6_putAside_2 : decode cX6_putAside 2 = .ok (.iload_n 1, 1) := by decide +kernel
theorem dX6_putAside_3 : decode cX6_putAside 3 = .ok (.sipush 378, 3) := by decide +kernel
theorem dX6_putAside_6 : decode cX6_putAside 6 = .ok (.if_icmp .ge 21, 3) := by decide +kernel
theorem dX6_putAside_9 : decode cX6_putAside 9 = .ok (.aload_n 0, 1) := by decide +kernel
theorem dX6_putAside_10 : decode cX6_putAside 10 = .ok (.getfield 13, 3) := by decide +kernel
theorem dX6_putAside_13 : decode cX6_putAside 13 = .ok (.iload_n 1, 1) := by decide +kernel
theorem dX6_putAside_14 : decode cX6_putAside 14 = .ok (.aload_n 0, 1) := by decide +kernel
theorem dX6_putAside_15 : decode cX6_putAside 15 = .ok (.getfield 7, 3) := by decide +kernel
theorem dX6_putAside_18 : decode cX6_putAside 18 = .ok (.iload_n 1, 1) := by decide +kernel
theorem dX6_putAside_19 : decode cX6_putAside 19 = .ok (.iaload, 1) := by decide +kernel
theorem dX6_putAside_20 : decode cX6_putAside 20 = .ok (.iastore, 1) := by decide +kernel
theorem dX6_putAside_21 : decode cX6_putAside 21 = .ok (.iinc 1 1, 3) := by decide +kernel
theorem dX6_putAside_24 : decode cX6_putAside 24 = .ok (.goto (-22), 3) := by decide +kernel
theorem dX6_putAside_27 : decode cX6_putAside 27 = .ok (.return_, 1) := by decide +kernel
theorem dX6_putBack_0 : decode cX6_putBack 0 = .ok (.iconst 0, 1) := by decide +kernel
theorem dX6_putBack_1 : decode cX6_putBack 1 = .ok (.istore_n 1, 1) := by decide +kernel
theorem dX6_putBack_2 : decode cX6_putBack 2 = .ok (.iload_n 1, 1) := by decide +kernel
theorem dX6_putBack_3 : decode cX6_putBack 3 = .ok (.sipush 378, 3) := by decide +kernel
theorem dX6_putBack_6 : decode cX6_putBack 6 = .ok (.if_icmp .ge 21, 3) := by decide +kernel
theorem dX6_putBack_9 : decode cX6_putBack 9 = .ok (.aload_n 0, 1) := by decide +kernel
theorem dX6_putBack_10 : decode cX6_putBack 10 = .ok (.getfield 7, 3) := by decide +kernel
theorem dX6_putBack_13 : decode cX6_putBack 13 = .ok (.iload_n 1, 1) := by decide +kernel
theorem dX6_putBack_14 : decode cX6_putBack 14 = .ok (.aload_n 0, 1) := by decide +kernel
theorem dX6_putBack_15 : decode cX6_putBack 15 = .ok (.getfield 13, 3) := by decide +kernel
theorem dX6_putBack_18 : decode cX6_putBack 18 = .ok (.iload_n 1, 1) := by decide +kernel
theorem dX6_putBack_19 : decode cX6_putBack 19 = .ok (.iaload, 1) := by decide +kernel
theorem dX6_putBack_20 : decode cX6_putBack 20 = .ok (.iastore, 1) := by decide +kernel
theorem dX6_putBack_21 : decode cX6_putBack 21 = .ok (.iinc 1 1, 3) := by decide +kernel
theorem dX6_putBack_24 : decode cX6_putBack 24 = .ok (.goto (-22), 3) := by decide +kernel
theorem dX6_putBack_27 : decode cX6_putBack 27 = .ok (.return_, 1) := by decide +kernel
theorem dX6_isFarrierThere_0 : decode cX6_isFarrierThere 0 = .ok (.aload_n 0, 1) := by decide +kernel
theorem dX6_isFarrierThere_1 : decode cX6_isFarrierThere 1 = .ok (.getfield 7, 3) := by decide +kernel
theorem dX6_isFarrierThere_4 : decode cX6_isFarrierThere 4 = .ok (.iconst 0, 1) := by decide +kernel
theorem dX6_isFarrierThere_5 : decode cX6_isFarrierThere 5 = .ok (.iaload, 1) := by decide +kernel
theorem dX6_isFarrierThere_6 : decode cX6_isFarrierThere 6 = .ok (.bipush 10, 2) := by decide +kernel
theorem dX6_isFarrierThere_8 : decode cX6_isFarrierThere 8 = .ok (.idiv, 1) := by decide +kernel
theorem dX6_isFarrierThere_9 : decode cX6_isFarrierThere 9 = .ok (.aload_n 0, 1) := by decide +kernel
theorem dX6_isFarrierThere_10 : decode cX6_isFarrierThere 10 = .ok (.getfield 7, 3) := by decide +kernel
theorem dX6_isFarrierThere_13 : decode cX6_isFarrierThere 13 = .ok (.sipush 191, 3) := by decide +kernel
theorem dX6_isFarrierThere_16 : decode cX6_isFarrierThere 16 = .ok (.iaload, 1) := by decide +kernel
theorem dX6_isFarrierThere_17 : decode cX6_isFarrierThere 17 = .ok (.irem, 1) := by decide +kernel
theorem dX6_isFarrierThere_18 : decode cX6_isFarrierThere 18 = .ok (.ifCond .ne 7, 3) := by decide +kernel
theorem dX6_isFarrierThere_21 : decode cX6_isFarrierThere 21 = .ok (.iconst 1, 1) := by decide +kernel
theorem dX6_isFarrierThere_22 : decode cX6_isFarrierThere 22 = .ok (.goto 4, 3) := by decide +kernel
theorem dX6_isFarrierThere_25 : decode cX6_isFarrierThere 25 = .ok (.iconst 0, 1) := by decide +kernel
theorem dX6_isFarrierThere_26 : decode cX6_isFarrierThere 26 = .ok (.ireturn, 1) := by decide +kernel
theorem dX6_shodHorse_0 : decode cX6_shodHorse 0 = .ok (.bipush (-5), 2) := by decide +kernel
theorem dX6_shodHorse_2 : decode cX6_shodHorse 2 = .ok (.istore_n 1, 1) := by decide +kernel
theorem dX6_shodHorse_3 : decode cX6_shodHorse 3 = .ok (.iconst 0, 1) := by decide +kernel
theorem dX6_shodHorse_4 : decode cX6_shodHorse 4 = .ok (.istore_n 2, 1) := by decide +kernel
theorem dX6_shodHorse_5 : decode cX6_shodHorse 5 = .ok (.iconst 0, 1) := by decide +kernel
theorem dX6_shodHorse_6 : decode cX6_shodHorse 6 = .ok (.istore_n 3, 1) := by decide +kernel
theorem dX6_shodHorse_7 : decode cX6_shodHorse 7 = .ok (.iload_n 3, 1) := by decide +kernel
theorem dX6_shodHorse_8 : decode cX6_shodHorse 8 = .ok (.bipush 10, 2) := by decide +kernel
theorem dX6_shodHorse_10 : decode cX6_shodHorse 10 = .ok (.if_icmp .ge 65, 3) := by decide +kernel
theorem dX6_shodHorse_13 : decode cX6_shodHorse 13 = .ok (.aload_n 0, 1) := by decide +kernel
theorem dX6_shodHorse_14 : decode cX6_shodHorse 14 = .ok (.invokevirtual 46, 3) := by decide +kernel
theorem dX6_shodHorse_17 : decode cX6_shodHorse 17 = .ok (.ifCond .eq 58, 3) := by decide +kernel
theorem dX6_shodHorse_20 : decode cX6_shodHorse 20 = .ok (.aload_n 0, 1) := by decide +kernel
theorem dX6_shodHorse_21 : decode cX6_shodHorse 21 = .ok (.getfield 7, 3) := by decide +kernel
theorem dX6_shodHorse_24 : decode cX6_shodHorse 24 = .ok (.iload_n 3, 1) := by decide +kernel
theorem dX6_shodHorse_25 : decode cX6_shodHorse 25 = .ok (.iconst 3, 1) := by decide +kernel
