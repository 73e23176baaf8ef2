theorem dX6_setRider_65 : decode cX6_setRider 65 = .ok (.iload_n 1, 1) := by decide +kernel
theorem dX6_setRider_66 : decode cX6_setRider 66 = .ok (.iconst 1, 1) := by decide +kernel
theorem dX6_setRider_67 : decode cX6_setRider 67 = .ok (.invokestatic 35, 3) := by decide +kernel
theorem dX6_setRider_70 : decode cX6_setRider 70 = .ok (.iload_n 3, 1) := by decide +kernel
theorem dX6_setRider_71 : decode cX6_setRider 71 = .ok (.iastore, 1) := by decide +kernel
theorem dX6_setRider_72 : decode cX6_setRider 72 = .ok (.aload_n 0, 1) := by decide +kernel
theorem dX6_setRider_73 : decode cX6_setRider 73 = .ok (.getfield 7, 3) := by decide +kernel
theorem dX6_setRider_76 : decode cX6_setRider 76 = .ok (.iload_n 1, 1) := by decide +kernel
theorem dX6_setRider_77 : decode cX6_setRider 77 = .ok (.iconst 2, 1) := by decide +kernel
theorem dX6_setRider_78 : decode cX6_setRider 78 = .ok (.invokestatic 35, 3) := by decide +kernel
theorem dX6_setRider_81 : decode cX6_setRider 81 = .ok (.iconst 0, 1) := by decide +kernel
theorem dX6_setRider_82 : decode cX6_setRider 82 = .ok (.iastore, 1) := by decide +kernel
theorem dX6_setRider_83 : decode cX6_setRider 83 = .ok (.aload_n 0, 1) := by decide +kernel
theorem dX6_setRider_84 : decode cX6_setRider 84 = .ok (.getfield 7, 3) := by decide +kernel
theorem dX6_setRider_87 : decode cX6_setRider 87 = .ok (.iload_n 1, 1) := by decide +kernel
theorem dX6_setRider_88 : decode cX6_setRider 88 = .ok (.iconst 3, 1) := by decide +kernel
theorem dX6_setRider_89 : decode cX6_setRider 89 = .ok (.invokestatic 35, 3) := by decide +kernel
theorem dX6_setRider_92 : decode cX6_setRider 92 = .ok (.iconst 0, 1) := by decide +kernel
theorem dX6_setRider_93 : decode cX6_setRider 93 = .ok (.iastore, 1) := by decide +kernel
theorem dX6_setRider_94 : decode cX6_setRider 94 = .ok (.iload 4, 2) := by decide +kernel
theorem dX6_setRider_96 : decode cX6_setRider 96 = .ok (.ireturn, 1) := by decide +kernel
theorem dX6_least_0 : decode cX6_least 0 = .ok (.iload_n 0, 1) := by decide +kernel
theorem dX6_least_1 : decode cX6_least 1 = .ok (.iconst 2, 1) := by decide +kernel
theorem dX6_least_2 : decode cX6_least 2 = .ok (.if_icmp .ne 7, 3) := by decide +kernel
theorem dX6_least_5 : decode cX6_least 5 = .ok (.iconst 0, 1) := by decide +kernel
theorem dX6_least_6 : decode cX6_least 6 = .ok (.goto 4, 3) := by decide +kernel
theorem dX6_least_9 : decode cX6_least 9 = .ok (.iconst 1, 1) := by decide +kernel
theorem dX6_least_10 : decode cX6_least 10 = .ok (.ireturn, 1) := by decide +kernel
theorem dX6_most_0 : decode cX6_most 0 = .ok (.iload_n 0, 1) := by decide +kernel
theorem dX6_most_1 : decode cX6_most 1 = .ok (.ifCond .eq 8, 3) := by decide +kernel
theorem dX6_most_4 : decode cX6_most 4 = .ok (.iload_n 0, 1) := by decide +kernel
theorem dX6_most_5 : decode cX6_most 5 = .ok (.iconst 4, 1) := by decide +kernel
theorem dX6_most_6 : decode cX6_most 6 = .ok (.if_icmp .ne 8, 3) := by decide +kernel
theorem dX6_most_9 : decode cX6_most 9 = .ok (.bipush 9, 2) := by decide +kernel
theorem dX6_most_11 : decode cX6_most 11 = .ok (.goto 15, 3) := by decide +kernel
theorem dX6_most_14 : decode cX6_most 14 = .ok (.iload_n 0, 1) := by decide +kernel
theorem dX6_most_15 : decode cX6_most 15 = .ok (.iconst 2, 1) := by decide +kernel
theorem dX6_most_16 : decode cX6_most 16 = .ok (.if_icmp .ne 8, 3) := by decide +kernel
theorem dX6_most_19 : decode cX6_most 19 = .ok (.bipush 50, 2) := by decide +kernel
theorem dX6_most_21 : decode cX6_most 21 = .ok (.goto 5, 3) := by decide +kernel
theorem dX6_most_24 : decode cX6_most 24 = .ok (.bipush 99, 2) := by decide +kernel
theorem dX6_most_26 : decode cX6_most 26 = .ok (.ireturn, 1) := by decide +kernel
theorem dX6_set_0 : decode cX6_set 0 = .ok (.iload_n 1, 1) := by decide +kernel
theorem dX6_set_1 : decode cX6_set 1 = .ok (.iconst 0, 1) := by decide +kernel
theorem dX6_set_2 : decode cX6_set 2 = .ok (.iconst 4, 1) := by decide +kernel
theorem dX6_set_3 : decode cX6_set 3 = .ok (.invokestatic 38, 3) := by decide +kernel
theorem dX6_set_6 : decode cX6_set 6 = .ok (.ifCond .ne 5, 3) := by decide +kernel
theorem dX6_set_9 : decode cX6_set 9 = .ok (.iconst (-1), 1) := by decide +kernel
theorem dX6_set_10 : decode cX6_set 10 = .ok (.ireturn, 1) := by decide +kernel
theorem dX6_set_11 : decode cX6_set 11 = .ok (.iload_n 2, 1) := by decide +kernel
theorem dX6_set_12 : decode cX6_set 12 = .ok (.iload_n 1, 1) := by decide +kernel
theorem dX6_set_13 : decode cX6_set 13 = .ok (.invokestatic 105, 3) := by decide +kernel
theorem dX6_set_16 : decode cX6_set 16 = .ok (.iload_n 1, 1) := by decide +kernel
theorem dX6_set_17 : decode cX6_set 17 = .ok (.invokestatic 108, 3) := by decide +kernel
theorem dX6_set_20 : decode cX6_set 20 = .ok (.invokestatic 38, 3) := by decide +kernel
theorem dX6_set_23 : decode cX6_set 23 = .ok (.ifCond .ne 6, 3) := by decide +kernel
theorem dX6_set_26 : decode cX6_set 26 = .ok (.bipush (-2), 2) := by decide +kernel
theorem dX6_set_28 : decode cX6_set 28 = .ok (.ireturn, 1) := by decide +kernel
theorem dX6_set_29 : decode cX6_set 29 = .ok (.aload_n 0, 1) := by decide +kernel
theorem dX6_set_30 : decode cX6_set 30 = .ok (.getfield 7, 3) := by decide +kernel
theorem dX6_set_33 : decode cX6_set 33 = .ok (.sipush 187, 3) := by decide +kernel
theorem dX6_set_36 : decode cX6_set 36 = .ok (.iload_n 1, 1) := by decide +kernel
theorem dX6_set_37 : decode cX6_set 37 = .ok (.iadd, 1) := by decide +kernel
theorem dX6_set_38 : decode cX6_set 38 = .ok (.iaload, 1) := by decide +kernel
theorem dX6_set_39 : decode cX6_set 39 = .ok (.istore_n 3, 1) := by decide +kernel
theorem dX6_set_40 : decode cX6_set 40 = .ok (.iload_n 3, 1) := by decide +kernel
theorem dX6_set_41 : decode cX6_set 41 = .ok (.iload_n 2, 1) := by decide +kernel
theorem dX6_set_42 : decode cX6_set 42 = .ok (.if_icmp .ne 6, 3) := by decide +kernel
theorem dX6_set_45 : decode cX6_set 45 = .ok (.bipush (-5), 2) := by decide +kernel
theorem dX6_set_47 : decode cX6_set 47 = .ok (.ireturn, 1) := by decide +kernel
theorem dX6_set_48 : decode cX6_set 48 = .ok (.aload_n 0, 1) := by decide +kernel
theorem dX6_set_49 : decode cX6_set 49 = .ok (.invokevirtual 99, 3) := by decide +kernel
theorem dX6_set_52 : decode cX6_set 52 = .ok (.aload_n 0, 1) := by decide +kernel
theorem dX6_set_53 : decode cX6_set 53 = .ok (.getfield 7, 3) := by decide +kernel
theorem dX6_set_56 : decode cX6_set 56 = .ok (.sipush 187, 3) := by decide +kernel
theorem dX6_set_59 : decode cX6_set 59 = .ok (.iload_n 1, 1) := by decide +kernel
theorem dX6_set_60 : decode cX6_set 60 = .ok (.iadd, 1) := by decide +kernel
theorem dX6_set_61 : decode cX6_set 61 = .ok (.iload_n 2, 1) := by decide +kernel
theorem dX6_set_62 : decode cX6_set 62 = .ok (.iastore, 1) := by decide +kernel
theorem dX6_set_63 : decode cX6_set 63 = .ok (.iload_n 3, 1) := by decide +kernel
theorem dX6_set_64 : decode cX6_set 64 = .ok (.ireturn, 1) := by decide +kernel
theorem dX6_bookingOf_0 : decode cX6_bookingOf 0 = .ok (.bipush (-5), 2) := by decide +kernel
theorem dX6_bookingOf_2 : decode cX6_bookingOf 2 = .ok (.istore_n 3, 1) := by decide +kernel
theorem dX6_bookingOf_3 : decode cX6_bookingOf 3 = .ok (.iconst 0, 1) := by decide +kernel
theorem dX6_bookingOf_4 : decode cX6_bookingOf 4 = .ok (.istore 4, 2) := by decide +kernel
theorem dX6_bookingOf_6 : decode cX6_bookingOf 6 = .ok (.iload 4, 2) := by decide +kernel
theorem dX6_bookingOf_8 : decode cX6_bookingOf 8 = .ok (.aload_n 0, 1) := by decide +kernel
theorem dX6_bookingOf_9 : decode cX6_bookingOf 9 = .ok (.getfield 7, 3) := by decide +kernel
theorem dX6_bookingOf_12 : decode cX6_bookingOf 12 = .ok (.sipush 192, 3) := by decide +kernel
theorem dX6_bookingOf_15 : decode cX6_bookingOf 15 = .ok (.iaload, 1) := by decide +kernel
theorem dX6_bookingOf_16 : decode cX6_bookingOf 16 = .ok (.if_icmp .ge 58, 3) := by decide +kernel
theorem dX6_bookingOf_19 : decode cX6_bookingOf 19 = .ok (.aload_n 0, 1) := by decide +kernel
theorem dX6_bookingOf_20 : decode cX6_bookingOf 20 = .ok (.getfield 7, 3) := by decide +kernel
theorem dX6_bookingOf_23 : decode cX6_bookingOf 23 = .ok (.iload 4, 2) := by decide +kernel
theorem dX6_bookingOf_25 : decode cX6_bookingOf 25 = .ok (.iconst 0, 1) := by decide +kernel
theorem dX6_bookingOf_26 : decode cX6_bookingOf 26 = .ok (.invokestatic 75, 3) := by decide +kernel
theorem dX6_bookingOf_29 : decode cX6_bookingOf 29 = .ok (.iaload, 1) := by decide +kernel
theorem dX6_bookingOf_30 : decode cX6_bookingOf 30 = .ok (.iload_n 1, 1) := by decide +kernel
theorem dX6_bookingOf_31 : decode cX6_bookingOf 31 = .ok (.if_icmp .ne 22, 3) := by decide +kernel
theorem dX6_bookingOf_34 : decode cX6_bookingOf 34 = .ok (.aload_n 0, 1) := by decide +kernel
theorem dX6_bookingOf_35 : decode cX6_bookingOf 35 = .ok (.getfield 7, 3) := by decide +kernel
theorem dX6_bookingOf_38 : decode cX6_bookingOf 38 = .ok (.iload 4, 2) := by decide +kernel
theorem dX6_bookingOf_40 : decode cX6_bookingOf 40 = .ok (.iconst 2, 1) := by decide +kernel
theorem dX6_bookingOf_41 : decode cX6_bookingOf 41 = .ok (.invokestatic 75, 3) := by decide +kernel
theorem dX6_bookingOf_44 : decode cX6_bookingOf 44 = .ok (.iaload, 1) := by decide +kernel
theorem dX6_bookingOf_45 : decode cX6_bookingOf 45 = .ok (.iload_n 2, 1) := by decide +kernel
theorem dX6_bookingOf_46 : decode cX6_bookingOf 46 = .ok (.if_icmp .ne 7, 3) := by decide +kernel
theorem dX6_bookingOf_49 : decode cX6_bookingOf 49 = .ok (.iconst 1, 1) := by decide +kernel
theorem dX6_bookingOf_50 : decode cX6_bookingOf 50 = .ok (.goto 4, 3) := by decide +kernel
theorem dX6_bookingOf_53 : decode cX6_bookingOf 53 = .ok (.iconst 0, 1) := by decide +kernel
theorem dX6_bookingOf_54 : decode cX6_bookingOf 54 = .ok (.istore 5, 2) := by decide +kernel
theorem dX6_bookingOf_56 : decode cX6_bookingOf 56 = .ok (.iload 5, 2) := by decide +kernel
theorem dX6_bookingOf_58 : decode cX6_bookingOf 58 = .ok (.ifCond .eq 8, 3) := by decide +kernel
theorem dX6_bookingOf_61 : decode cX6_bookingOf 61 = .ok (.iload 4, 2) := by decide +kernel
theorem dX6_bookingOf_63 : decode cX6_bookingOf 63 = .ok (.goto 4, 3) := by decide +kernel
theorem dX6_bookingOf_66 : decode cX6_bookingOf 66 = .ok (.iload_n 3, 1) := by decide +kernel
theorem dX6_bookingOf_67 : decode cX6_bookingOf 67 = .ok (.istore_n 3, 1) := by decide +kernel
theorem dX6_bookingOf_68 : decode cX6_bookingOf 68 = .ok (.iinc 4 1, 3) := by decide +kernel
theorem dX6_bookingOf_71 : decode cX6_bookingOf 71 = .ok (.goto (-65), 3) := by decide +kernel
theorem dX6_bookingOf_74 : decode cX6_bookingOf 74 = .ok (.iload_n 3, 1) := by decide +kernel
theorem dX6_bookingOf_75 : decode cX6_bookingOf 75 = .ok (.ireturn, 1) := by decide +kernel
theorem dX6_bookedFor_0 : decode cX6_bookedFor 0 = .ok (.iconst 0, 1) := by decide +kernel
theorem dX6_bookedFor_1 : decode cX6_bookedFor 1 = .ok (.istore_n 3, 1) := by decide +kernel
theorem dX6_bookedFor_2 : decode cX6_bookedFor 2 = .ok (.iconst 0, 1) := by decide +kernel
theorem dX6_bookedFor_3 : decode cX6_bookedFor 3 = .ok (.istore 4, 2) := by decide +kernel
theorem dX6_bookedFor_5 : decode cX6_bookedFor 5 = .ok (.iload 4, 2) := by decide +kernel
theorem dX6_bookedFor_7 : decode cX6_bookedFor 7 = .ok (.aload_n 0, 1) := by decide +kernel
theorem dX6_bookedFor_8 : decode cX6_bookedFor 8 = .ok (.getfield 7, 3) := by decide +kernel
theorem dX6_bookedFor_11 : decode cX6_bookedFor 11 = .ok (.sipush 192, 3) := by decide +kernel
theorem dX6_bookedFor_14 : decode cX6_bookedFor 14 = .ok (.iaload, 1) := by decide +kernel
theorem dX6_bookedFor_15 : decode cX6_bookedFor 15 = .ok (.if_icmp .ge 47, 3) := by decide +kernel
theorem dX6_bookedFor_18 : decode cX6_bookedFor 18 = .ok (.iload_n 3, 1) := by decide +kernel
theorem dX6_bookedFor_19 : decode cX6_bookedFor 19 = .ok (.aload_n 0, 1) := by decide +kernel
theorem dX6_bookedFor_20 : decode cX6_bookedFor 20 = .ok (.getfield 7, 3) := by decide +kernel
theorem dX6_bookedFor_23 : decode cX6_bookedFor 23 = .ok (.iload 4, 2) := by decide +kernel
theorem dX6_bookedFor_25 : decode cX6_bookedFor 25 = .ok (.iconst 0, 1) := by decide +kernel
theorem dX6_bookedFor_26 : decode cX6_bookedFor 26 = .ok (.invokestatic 75, 3) := by decide +kernel
theorem dX6_bookedFor_29 : decode cX6_bookedFor 29 = .ok (.iaload, 1) := by decide +kernel
theorem dX6_bookedFor_30 : decode cX6_bookedFor 30 = .ok (.iload_n 1, 1) := by decide +kernel
theorem dX6_bookedFor_31 : decode cX6_bookedFor 31 = .ok (.if_icmp .ne 22, 3) := by decide +kernel
theorem dX6_bookedFor_34 : decode cX6_bookedFor 34 = .ok (.aload_n 0, 1) := by decide +kernel
theorem dX6_bookedFor_35 : decode cX6_bookedFor 35 = .ok (.getfield 7, 3) := by decide +kernel
theorem dX6_bookedFor_38 : decode cX6_bookedFor 38 = .ok (.iload 4, 2) := by decide +kernel
theorem dX6_bookedFor_40 : decode cX6_bookedFor 40 = .ok (.iconst 1, 1) := by decide +kernel
theorem dX6_bookedFor_41 : decode cX6_bookedFor 41 = .ok (.invokestatic 75, 3) := by decide +kernel
theorem dX6_bookedFor_44 : decode cX6_bookedFor 44 = .ok (.iaload, 1) := by decide +kernel
theorem dX6_bookedFor_45 : decode cX6_bookedFor 45 = .ok (.iload_n 2, 1) := by decide +kernel
theorem dX6_bookedFor_46 : decode cX6_bookedFor 46 = .ok (.if_icmp .ne 7, 3) := by decide +kernel
theorem dX6_bookedFor_49 : decode cX6_bookedFor 49 = .ok (.iconst 1, 1) := by decide +kernel
theorem dX6_bookedFor_50 : decode cX6_bookedFor 50 = .ok (.goto 4, 3) := by decide +kernel
theorem dX6_bookedFor_53 : decode cX6_bookedFor 53 = .ok (.iconst 0, 1) := by decide +kernel
theorem dX6_bookedFor_54 : decode cX6_bookedFor 54 = .ok (.iadd, 1) := by decide +kernel
theorem dX6_bookedFor_55 : decode cX6_bookedFor 55 = .ok (.istore_n 3, 1) := by decide +kernel
theorem dX6_bookedFor_56 : decode cX6_bookedFor 56 = .ok (.iinc 4 1, 3) := by decide +kernel
theorem dX6_bookedFor_59 : decode cX6_bookedFor 59 = .ok (.goto (-54), 3) := by decide +kernel
theorem dX6_bookedFor_62 : decode cX6_bookedFor 62 = .ok (.iload_n 3, 1) := by decide +kernel
theorem dX6_bookedFor_63 : decode cX6_bookedFor 63 = .ok (.ireturn, 1) := by decide +kernel
theorem dX6_books_0 : decode cX6_books 0 = .ok (.iload_n 2, 1) := by decide +kernel
theorem dX6_books_1 : decode cX6_books 1 = .ok (.invokestatic 111, 3) := by decide +kernel
theorem dX6_books_4 : decode cX6_books 4 = .ok (.ifCond .eq 10, 3) := by decide +kernel
theorem dX6_books_7 : decode cX6_books 7 = .ok (.iload_n 3, 1) := by decide +kernel
theorem dX6_books_8 : decode cX6_books 8 = .ok (.invokestatic 102, 3) := by decide +kernel
theorem dX6_books_11 : decode cX6_books 11 = .ok (.ifCond .ne 5, 3) := by decide +kernel
theorem dX6_books_14 : decode cX6_books 14 = .ok (.iconst (-1), 1) := by decide +kernel
theorem dX6_books_15 : decode cX6_books 15 = .ok (.ireturn, 1) := by decide +kernel
theorem dX6_books_16 : decode cX6_books 16 = .ok (.iload_n 1, 1) := by decide +kernel
theorem dX6_books_17 : decode cX6_books 17 = .ok (.invokestatic 114, 3) := by decide +kernel
theorem dX6_books_20 : decode cX6_books 20 = .ok (.ifCond .ne 6, 3) := by decide +kernel
theorem dX6_books_23 : decode cX6_books 23 = .ok (.bipush (-2), 2) := by decide +kernel
theorem dX6_books_25 : decode cX6_books 25 = .ok (.ireturn, 1) := by decide +kernel
theorem dX6_books_26 : decode cX6_books 26 = .ok (.aload_n 0, 1) := by decide +kernel
theorem dX6_books_27 : decode cX6_books 27 = .ok (.getfield 7, 3) := by decide +kernel
theorem dX6_books_30 : decode cX6_books 30 = .ok (.iconst 0, 1) := by decide +kernel
theorem dX6_books_31 : decode cX6_books 31 = .ok (.iaload, 1) := by decide +kernel
theorem dX6_books_32 : decode cX6_books 32 = .ok (.iload_n 1, 1) := by decide +kernel
theorem dX6_books_33 : decode cX6_books 33 = .ok (.iadd, 1) := by decide +kernel
theorem dX6_books_34 : decode cX6_books 34 = .ok (.istore 4, 2) := by decide +kernel
theorem dX6_books_36 : decode cX6_books 36 = .ok (.aload_n 0, 1) := by decide +kernel
theorem dX6_books_37 : decode cX6_books 37 = .ok (.iload 4, 2) := by decide +kernel
theorem dX6_books_39 : decode cX6_books 39 = .ok (.iload_n 3, 1) := by decide +kernel
theorem dX6_books_40 : decode cX6_books 40 = .ok (.invokevirtual 117, 3) := by decide +kernel
theorem dX6_books_43 : decode cX6_books 43 = .ok (.bipush (-5), 2) := by decide +kernel
theorem dX6_books_45 : decode cX6_books 45 = .ok (.if_icmp .eq 6, 3) := by decide +kernel
theorem dX6_books_48 : decode cX6_books 48 = .ok (.bipush (-4), 2) := by decide +kernel
theorem dX6_books_50 : decode cX6_books 50 = .ok (.ireturn, 1) := by decide +kernel
theorem dX6_books_51 : decode cX6_books 51 = .ok (.aload_n 0, 1) := by decide +kernel
theorem dX6_books_52 : decode cX6_books 52 = .ok (.iload 4, 2) := by decide +kernel
theorem dX6_books_54 : decode cX6_books 54 = .ok (.iload_n 2, 1) := by decide +kernel
theorem dX6_books_55 : decode cX6_books 55 = .ok (.invokevirtual 120, 3) := by decide +kernel
theorem dX6_books_58 : decode cX6_books 58 = .ok (.istore 5, 2) := by decide +kernel
theorem dX6_books_60 : decode cX6_books 60 = .ok (.iload 5, 2) := by decide +kernel
theorem dX6_books_62 : decode cX6_books 62 = .ok (.iconst 4, 1) := by decide +kernel
theorem dX6_books_63 : decode cX6_books 63 = .ok (.iload_n 2, 1) := by decide +kernel
theorem dX6_books_64 : decode cX6_books 64 = .ok (.isub, 1) := by decide +kernel
theorem dX6_books_65 : decode cX6_books 65 = .ok (.if_icmp .eq 16, 3) := by decide +kernel
theorem dX6_books_68 : decode cX6_books 68 = .ok (.aload_n 0, 1) := by decide +kernel
theorem dX6_books_69 : decode cX6_books 69 = .ok (.getfield 7, 3) := by decide +kernel
theorem dX6_books_72 : decode cX6_books 72 = .ok (.sipush 192, 3) := by decide +kernel
theorem dX6_books_75 : decode cX6_books 75 = .ok (.iaload, 1) := by decide +kernel
theorem dX6_books_76 : decode cX6_books 76 = .ok (.bipush 40, 2) := by decide +kernel
theorem dX6_books_78 : decode cX6_books 78 = .ok (.if_icmp .ne 6, 3) := by decide +kernel
theorem dX6_books_81 : decode cX6_books 81 = .ok (.bipush (-3), 2) := by decide +kernel
theorem dX6_books_83 : decode cX6_books 83 = .ok (.ireturn, 1) := by decide +kernel
theorem dX6_books_84 : decode cX6_books 84 = .ok (.aload_n 0, 1) := by decide +kernel
theorem dX6_books_85 : decode cX6_books 85 = .ok (.getfield 7, 3) := by decide +kernel
theorem dX6_books_88 : decode cX6_books 88 = .ok (.aload_n 0, 1) := by decide +kernel
theorem dX6_books_89 : decode cX6_books 89 = .ok (.getfield 7, 3) := by decide +kernel
theorem dX6_books_92 : decode cX6_books 92 = .ok (.sipush 192, 3) := by decide +kernel
theorem dX6_books_95 : decode cX6_books 95 = .ok (.iaload, 1) := by decide +kernel
theorem dX6_books_96 : decode cX6_books 96 = .ok (.iconst 0, 1) := by decide +kernel
theorem dX6_books_97 : decode cX6_books 97 = .ok (.invokestatic 75, 3) := by decide +kernel
theorem dX6_books_100 : decode cX6_books 100 = .ok (.iload 4, 2) := by decide +kernel
theorem dX6_books_102 : decode cX6_books 102 = .ok (.iastore, 1) := by decide +kernel
theorem dX6_books_103 : decode cX6_books 103 = .ok (.aload_n 0, 1) := by decide +kernel
theorem dX6_books_104 : decode cX6_books 104 = .ok (.getfield 7, 3) := by decide +kernel
theorem dX6_books_107 : decode cX6_books 107 = .ok (.aload_n 0, 1) := by decide +kernel
theorem dX6_books_108 : decode cX6_books 108 = .ok (.getfield 7, 3) := by decide +kernel
theorem dX6_books_111 : decode cX6_books 111 = .ok (.sipush 192, 3) := by decide +kernel
theorem dX6_books_114 : decode cX6_books 114 = .ok (.iaload, 1) := by decide +kernel
theorem dX6_books_115 : decode cX6_books 115 = .ok (.iconst 1, 1) := by decide +kernel
theorem dX6_books_116 : decode cX6_books 116 = .ok (.invokestatic 75, 3) := by decide +kernel
theorem dX6_books_119 : decode cX6_books 119 = .ok (.iload_n 2, 1) := by decide +kernel
theorem dX6_books_120 : decode cX6_books 120 = .ok (.iastore, 1) := by decide +kernel
theorem dX6_books_121 : decode cX6_books 121 = .ok (.aload_n 0, 1) := by decide +kernel
theorem dX6_books_122 : decode cX6_books 122 = .ok (.getfield 7, 3) := by decide +kernel
theorem dX6_books_125 : decode cX6_books 125 = .ok (.aload_n 0, 1) := by decide +kernel
theorem dX6_books_126 : decode cX6_books 126 = .ok (.getfield 7, 3) := by decide +kernel
theorem dX6_books_129 : decode cX6_books 129 = .ok (.sipush 192, 3) := by decide +kernel
theorem dX6_books_132 : decode cX6_books 132 = .ok (.iaload, 1) := by decide +kernel
theorem dX6_books_133 : decode cX6_books 133 = .ok (.iconst 2, 1) := by decide +kernel
theorem dX6_books_134 : decode cX6_books 134 = .ok (.invokestatic 75, 3) := by decide +kernel
theorem dX6_books_137 : decode cX6_books 137 = .ok (.iload_n 3, 1) := by decide +kernel
theorem dX6_books_138 : decode cX6_books 138 = .ok (.iastore, 1) := by decide +kernel
theorem dX6_books_139 : decode cX6_books 139 = .ok (.aload_n 0, 1) := by decide +kernel
theorem dX6_books_140 : decode cX6_books 140 = .ok (.getfield 7, 3) := by decide +kernel
theorem dX6_books_143 : decode cX6_books 143 = .ok (.sipush 192, 3) := by decide +kernel
theorem dX6_books_146 : decode cX6_books 146 = .ok (.dup2, 1) := by decide +kernel
theorem dX6_books_147 : decode cX6_books 147 = .ok (.iaload, 1) := by decide +kernel
theorem dX6_books_148 : decode cX6_books 148 = .ok (.iconst 1, 1) := by decide +kernel
theorem dX6_books_149 : decode cX6_books 149 = .ok (.iadd, 1) := by decide +kernel
theorem dX6_books_150 : decode cX6_books 150 = .ok (.iastore, 1) := by decide +kernel
theorem dX6_books_151 : decode cX6_books 151 = .ok (.iload 5, 2) := by decide +kernel
theorem dX6_books_153 : decode cX6_books 153 = .ok (.iconst 1, 1) := by decide +kernel
theorem dX6_books_154 : decode cX6_books 154 = .ok (.iadd, 1) := by decide +kernel
theorem dX6_books_155 : decode cX6_books 155 = .ok (.ireturn, 1) := by decide +kernel
theorem dX6_book_0 : decode cX6_book 0 = .ok (.aload_n 0, 1) := by decide +kernel
theorem dX6_book_1 : decode cX6_book 1 = .ok (.invokevirtual 123, 3) := by decide +kernel
theorem dX6_book_4 : decode cX6_book 4 = .ok (.aload_n 0, 1) := by decide +kernel
theorem dX6_book_5 : decode cX6_book 5 = .ok (.iload_n 1, 1) := by decide +kernel
theorem dX6_book_6 : decode cX6_book 6 = .ok (.iload_n 2, 1) := by decide +kernel
theorem dX6_book_7 : decode cX6_book 7 = .ok (.iload_n 3, 1) := by decide +kernel
theorem dX6_book_8 : decode cX6_book 8 = .ok (.invokevirtual 126, 3) := by decide +kernel
theorem dX6_book_11 : decode cX6_book 11 = .ok (.istore 4, 2) := by decide +kernel
theorem dX6_book_13 : decode cX6_book 13 = .ok (.iload 4, 2) := by decide +kernel
theorem dX6_book_15 : decode cX6_book 15 = .ok (.ifCond .le 7, 3) := by decide +kernel
theorem dX6_book_18 : decode cX6_book 18 = .ok (.aload_n 0, 1) := by decide +kernel
theorem dX6_book_19 : decode cX6_book 19 = .ok (.invokevirtual 129, 3) := by decide +kernel
theorem dX6_book_22 : decode cX6_book 22 = .ok (.iload 4, 2) := by decide +kernel
theorem dX6_book_24 : decode cX6_book 24 = .ok (.ireturn, 1) := by decide +kernel
theorem dX6_recordAside_0 : decode cX6_recordAside 0 = .ok (.aload_n 0, 1) := by decide +kernel
theorem dX6_recordAside_1 : decode cX6_recordAside 1 = .ok (.invokevirtual 99, 3) := by decide +kernel
theorem dX6_recordAside_4 : decode cX6_recordAside 4 = .ok (.iconst 0, 1) := by decide +kernel
theorem dX6_recordAside_5 : decode cX6_recordAside 5 = .ok (.istore_n 1, 1) := by decide +kernel
theorem dX6_recordAside_6 : decode cX6_recordAside 6 = .ok (.iload_n 1, 1) := by decide +kernel
theorem dX6_recordAside_7 : decode cX6_recordAside 7 = .ok (.sipush 378, 3) := by decide +kernel
theorem dX6_recordAside_10 : decode cX6_recordAside 10 = .ok (.if_icmp .ge 32, 3) := by decide +kernel
theorem dX6_recordAside_13 : decode cX6_recordAside 13 = .ok (.aload_n 0, 1) := by decide +kernel
theorem dX6_recordAside_14 : decode cX6_recordAside 14 = .ok (.getfield 16, 3) := by decide +kernel
theorem dX6_recordAside_17 : decode cX6_recordAside 17 = .ok (.sipush 378, 3) := by decide +kernel
theorem dX6_recordAside_20 : decode cX6_recordAside 20 = .ok (.aload_n 0, 1) := by decide +kernel
theorem dX6_recordAside_21 : decode cX6_recordAside 21 = .ok (.getfield 42, 3) := by decide +kernel
theorem dX6_recordAside_24 : decode cX6_recordAside 24 = .ok (.iconst 1, 1) := by decide +kernel
theorem dX6_recordAside_25 : decode cX6_recordAside 25 = .ok (.isub, 1) := by decide +kernel
theorem dX6_recordAside_26 : decode cX6_recordAside 26 = .ok (.imul, 1) := by decide +kernel
theorem dX6_recordAside_27 : decode cX6_recordAside 27 = .ok (.iload_n 1, 1) := by decide +kernel
theorem dX6_recordAside_28 : decode cX6_recordAside 28 = .ok (.iadd, 1) := by decide +kernel
theorem dX6_recordAside_29 : decode cX6_recordAside 29 = .ok (.aload_n 0, 1) := by decide +kernel
theorem dX6_recordAside_30 : decode cX6_recordAside 30 = .ok (.getfield 13, 3) := by decide +kernel
theorem dX6_recordAside_33 : decode cX6_recordAside 33 = .ok (.iload_n 1, 1) := by decide +kernel
theorem dX6_recordAside_34 : decode cX6_recordAside 34 = .ok (.iaload, 1) := by decide +kernel
theorem dX6_recordAside_35 : decode cX6_recordAside 35 = .ok (.iastore, 1) := by decide +kernel
theorem dX6_recordAside_36 : decode cX6_recordAside 36 = .ok (.iinc 1 1, 3) := by decide +kernel
theorem dX6_recordAside_39 : decode cX6_recordAside 39 = .ok (.goto (-33), 3) := by decide +kernel
theorem dX6_recordAside_42 : decode cX6_recordAside 42 = .ok (.return_, 1) := by decide +kernel
theorem dX6_cancel_0 : decode cX6_cancel 0 = .ok (.iload_n 2, 1) := by decide +kernel
theorem dX6_cancel_1 : decode cX6_cancel 1 = .ok (.invokestatic 102, 3) := by decide +kernel
theorem dX6_cancel_4 : decode cX6_cancel 4 = .ok (.ifCond .ne 5, 3) := by decide +kernel
theorem dX6_cancel_7 : decode cX6_cancel 7 = .ok (.iconst (-1), 1) := by decide +kernel
theorem dX6_cancel_8 : decode cX6_cancel 8 = .ok (.ireturn, 1) := by decide +kernel
theorem dX6_cancel_9 : decode cX6_cancel 9 = .ok (.iload_n 1, 1) := by decide +kernel
theorem dX6_cancel_10 : decode cX6_cancel 10 = .ok (.invokestatic 114, 3) := by decide +kernel
theorem dX6_cancel_13 : decode cX6_cancel 13 = .ok (.ifCond .ne 6, 3) := by decide +kernel
theorem dX6_cancel_16 : decode cX6_cancel 16 = .ok (.bipush (-2), 2) := by decide +kernel
theorem dX6_cancel_18 : decode cX6_cancel 18 = .ok (.ireturn, 1) := by decide +kernel
theorem dX6_cancel_19 : decode cX6_cancel 19 = .ok (.aload_n 0, 1) := by decide +kernel
theorem dX6_cancel_20 : decode cX6_cancel 20 = .ok (.aload_n 0, 1) := by decide +kernel
theorem dX6_cancel_21 : decode cX6_cancel 21 = .ok (.getfield 7, 3) := by decide +kernel
theorem dX6_cancel_24 : decode cX6_cancel 24 = .ok (.iconst 0, 1) := by decide +kernel
theorem dX6_cancel_25 : decode cX6_cancel 25 = .ok (.iaload, 1) := by decide +kernel
theorem dX6_cancel_26 : decode cX6_cancel 26 = .ok (.iload_n 1, 1) := by decide +kernel
theorem dX6_cancel_27 : decode cX6_cancel 27 = .ok (.iadd, 1) := by decide +kernel
theorem dX6_cancel_28 : decode cX6_cancel 28 = .ok (.iload_n 2, 1) := by decide +kernel
theorem dX6_cancel_29 : decode cX6_cancel 29 = .ok (.invokevirtual 117, 3) := by decide +kernel
theorem dX6_cancel_32 : decode cX6_cancel 32 = .ok (.istore_n 3, 1) := by decide +kernel
theorem dX6_cancel_33 : decode cX6_cancel 33 = .ok (.iload_n 3, 1) := by decide +kernel
theorem dX6_cancel_34 : decode cX6_cancel 34 = .ok (.bipush (-5), 2) := by decide +kernel
theorem dX6_cancel_36 : decode cX6_cancel 36 = .ok (.if_icmp .ne 6, 3) := by decide +kernel
theorem dX6_cancel_39 : decode cX6_cancel 39 = .ok (.bipush (-5), 2) := by decide +kernel
theorem dX6_cancel_41 : decode cX6_cancel 41 = .ok (.ireturn, 1) := by decide +kernel
theorem dX6_cancel_42 : decode cX6_cancel 42 = .ok (.aload_n 0, 1) := by decide +kernel
theorem dX6_cancel_43 : decode cX6_cancel 43 = .ok (.invokevirtual 99, 3) := by decide +kernel
theorem dX6_cancel_46 : decode cX6_cancel 46 = .ok (.aload_n 0, 1) := by decide +kernel
theorem dX6_cancel_47 : decode cX6_cancel 47 = .ok (.getfield 7, 3) := by decide +kernel
theorem dX6_cancel_50 : decode cX6_cancel 50 = .ok (.iload_n 3, 1) := by decide +kernel
theorem dX6_cancel_51 : decode cX6_cancel 51 = .ok (.iconst 1, 1) := by decide +kernel
theorem dX6_cancel_52 : decode cX6_cancel 52 = .ok (.invokestatic 75, 3) := by decide +kernel
theorem dX6_cancel_55 : decode cX6_cancel 55 = .ok (.iaload, 1) := by decide +kernel
theorem dX6_cancel_56 : decode cX6_cancel 56 = .ok (.istore 4, 2) := by decide +kernel
theorem dX6_cancel_58 : decode cX6_cancel 58 = .ok (.iload_n 3, 1) := by decide +kernel
theorem dX6_cancel_59 : decode cX6_cancel 59 = .ok (.iconst 0, 1) := by decide +kernel
theorem dX6_cancel_60 : decode cX6_cancel 60 = .ok (.invokestatic 75, 3) := by decide +kernel
theorem dX6_cancel_63 : decode cX6_cancel 63 = .ok (.istore 5, 2) := by decide +kernel
theorem dX6_cancel_65 : decode cX6_cancel 65 = .ok (.iload 5, 2) := by decide +kernel
theorem dX6_cancel_67 : decode cX6_cancel 67 = .ok (.bipush 39, 2) := by decide +kernel
theorem dX6_cancel_69 : decode cX6_cancel 69 = .ok (.iconst 0, 1) := by decide +kernel
theorem dX6_cancel_70 : decode cX6_cancel 70 = .ok (.invokestatic 75, 3) := by decide +kernel
theorem dX6_cancel_73 : decode cX6_cancel 73 = .ok (.if_icmp .ge 25, 3) := by decide +kernel
theorem dX6_cancel_76 : decode cX6_cancel 76 = .ok (.aload_n 0, 1) := by decide +kernel
theorem dX6_cancel_77 : decode cX6_cancel 77 = .ok (.getfield 7, 3) := by decide +kernel
theorem dX6_cancel_80 : decode cX6_cancel 80 = .ok (.iload 5, 2) := by decide +kernel
theorem dX6_cancel_82 : decode cX6_cancel 82 = .ok (.aload_n 0, 1) := by decide +kernel
theorem dX6_cancel_83 : decode cX6_cancel 83 = .ok (.getfield 7, 3) := by decide +kernel
theorem dX6_cancel_86 : decode cX6_cancel 86 = .ok (.iload 5, 2) := by decide +kernel
theorem dX6_cancel_88 : decode cX6_cancel 88 = .ok (.iconst 3, 1) := by decide +kernel
theorem dX6_cancel_89 : decode cX6_cancel 89 = .ok (.iadd, 1) := by decide +kernel
theorem dX6_cancel_90 : decode cX6_cancel 90 = .ok (.iaload, 1) := by decide +kernel
theorem dX6_cancel_91 : decode cX6_cancel 91 = .ok (.iastore, 1) := by decide +kernel
theorem dX6_cancel_92 : decode cX6_cancel 92 = .ok (.iinc 5 1, 3) := by decide +kernel
theorem dX6_cancel_95 : decode cX6_cancel 95 = .ok (.goto (-30), 3) := by decide +kernel
theorem dX6_cancel_98 : decode cX6_cancel 98 = .ok (.aload_n 0, 1) := by decide +kernel
theorem dX6_cancel_99 : decode cX6_cancel 99 = .ok (.getfield 7, 3) := by decide +kernel
theorem dX6_cancel_102 : decode cX6_cancel 102 = .ok (.sipush 192, 3) := by decide +kernel
theorem dX6_cancel_105 : decode cX6_cancel 105 = .ok (.dup2, 1) := by decide +kernel
theorem dX6_cancel_106 : decode cX6_cancel 106 = .ok (.iaload, 1) := by decide +kernel
theorem dX6_cancel_107 : decode cX6_cancel 107 = .ok (.iconst 1, 1) := by decide +kernel
theorem dX6_cancel_108 : decode cX6_cancel 108 = .ok (.isub, 1) := by decide +kernel
theorem dX6_cancel_109 : decode cX6_cancel 109 = .ok (.iastore, 1) := by decide +kernel
theorem dX6_cancel_110 : decode cX6_cancel 110 = .ok (.iload 4, 2) := by decide +kernel
theorem dX6_cancel_112 : decode cX6_cancel 112 = .ok (.ireturn, 1) := by decide +kernel
theorem dX6_pass_0 : decode cX6_pass 0 = .ok (.iload_n 1, 1) := by decide +kernel
theorem dX6_pass_1 : decode cX6_pass 1 = .ok (.iconst 1, 1) := by decide +kernel
theorem dX6_pass_2 : decode cX6_pass 2 = .ok (.bipush 99, 2) := by decide +kernel
theorem dX6_pass_4 : decode cX6_pass 4 = .ok (.invokestatic 38, 3) := by decide +kernel
theorem dX6_pass_7 : decode cX6_pass 7 = .ok (.ifCond .ne 6, 3) := by decide +kernel
theorem dX6_pass_10 : decode cX6_pass 10 = .ok (.bipush (-2), 2) := by decide +kernel
theorem dX6_pass_12 : decode cX6_pass 12 = .ok (.ireturn, 1) := by decide +kernel
theorem dX6_pass_13 : decode cX6_pass 13 = .ok (.aload_n 0, 1) := by decide +kernel
theorem dX6_pass_14 : decode cX6_pass 14 = .ok (.getfield 7, 3) := by decide +kernel
theorem dX6_pass_17 : decode cX6_pass 17 = .ok (.iconst 0, 1) := by decide +kernel
theorem dX6_pass_18 : decode cX6_pass 18 = .ok (.iaload, 1) := by decide +kernel
theorem dX6_pass_19 : decode cX6_pass 19 = .ok (.iload_n 1, 1) := by decide +kernel
theorem dX6_pass_20 : decode cX6_pass 20 = .ok (.iadd, 1) := by decide +kernel
theorem dX6_pass_21 : decode cX6_pass 21 = .ok (.sipush 9999, 3) := by decide +kernel
theorem dX6_pass_24 : decode cX6_pass 24 = .ok (.if_icmp .le 6, 3) := by decide +kernel
theorem dX6_pass_27 : decode cX6_pass 27 = .ok (.bipush (-3), 2) := by decide +kernel
theorem dX6_pass_29 : decode cX6_pass 29 = .ok (.ireturn, 1) := by decide +kernel
theorem dX6_pass_30 : decode cX6_pass 30 = .ok (.aload_n 0, 1) := by decide +kernel
theorem dX6_pass_31 : decode cX6_pass 31 = .ok (.invokevirtual 99, 3) := by decide +kernel
theorem dX6_pass_34 : decode cX6_pass 34 = .ok (.iconst 0, 1) := by decide +kernel
theorem dX6_pass_35 : decode cX6_pass 35 = .ok (.istore_n 2, 1) := by decide +kernel
theorem dX6_pass_36 : decode cX6_pass 36 = .ok (.iconst 0, 1) := by decide +kernel
theorem dX6_pass_37 : decode cX6_pass 37 = .ok (.istore_n 3, 1) := by decide +kernel
theorem dX6_pass_38 : decode cX6_pass 38 = .ok (.iload_n 3, 1) := by decide +kernel
theorem dX6_pass_39 : decode cX6_pass 39 = .ok (.iload_n 1, 1) := by decide +kernel
theorem dX6_pass_40 : decode cX6_pass 40 = .ok (.if_icmp .ge 17, 3) := by decide +kernel
theorem dX6_pass_43 : decode cX6_pass 43 = .ok (.iload_n 2, 1) := by decide +kernel
theorem dX6_pass_44 : decode cX6_pass 44 = .ok (.aload_n 0, 1) := by decide +kernel
theorem dX6_pass_45 : decode cX6_pass 45 = .ok (.iconst 1, 1) := by decide +kernel
theorem dX6_pass_46 : decode cX6_pass 46 = .ok (.invokevirtual 132, 3) := by decide +kernel
theorem dX6_pass_49 : decode cX6_pass 49 = .ok (.iadd, 1) := by decide +kernel
theorem dX6_pass_50 : decode cX6_pass 50 = .ok (.istore_n 2, 1) := by decide +kernel
theorem dX6_pass_51 : decode cX6_pass 51 = .ok (.iinc 3 1, 3) := by decide +kernel
theorem dX6_pass_54 : decode cX6_pass 54 = .ok (.goto (-16), 3) := by decide +kernel
theorem dX6_pass_57 : decode cX6_pass 57 = .ok (.iload_n 2, 1) := by decide +kernel
theorem dX6_pass_58 : decode cX6_pass 58 = .ok (.ireturn, 1) := by decide +kernel
theorem dX6_type_0 : decode cX6_type 0 = .ok (.aload_n 0, 1) := by decide +kernel
theorem dX6_type_1 : decode cX6_type 1 = .ok (.getfield 136, 3) := by decide +kernel
theorem dX6_type_4 : decode cX6_type 4 = .ok (.bipush 60, 2) := by decide +kernel
theorem dX6_type_6 : decode cX6_type 6 = .ok (.if_icmp .ne 6, 3) := by decide +kernel
theorem dX6_type_9 : decode cX6_type 9 = .ok (.bipush (-3), 2) := by decide +kernel
theorem dX6_type_11 : decode cX6_type 11 = .ok (.ireturn, 1) := by decide +kernel
theorem dX6_type_12 : decode cX6_type 12 = .ok (.aload_n 0, 1) := by decide +kernel
theorem dX6_type_13 : decode cX6_type 13 = .ok (.getfield 22, 3) := by decide +kernel
theorem dX6_type_16 : decode cX6_type 16 = .ok (.aload_n 0, 1) := by decide +kernel
theorem dX6_type_17 : decode cX6_type 17 = .ok (.getfield 136, 3) := by decide +kernel
theorem dX6_type_20 : decode cX6_type 20 = .ok (.iload_n 1, 1) := by decide +kernel
theorem dX6_type_21 : decode cX6_type 21 = .ok (.iastore, 1) := by decide +kernel
theorem dX6_type_22 : decode cX6_type 22 = .ok (.aload_n 0, 1) := by decide +kernel
theorem dX6_type_23 : decode cX6_type 23 = .ok (.dup, 1) := by decide +kernel
theorem dX6_type_24 : decode cX6_type 24 = .ok (.getfield 136, 3) := by decide +kernel
theorem dX6_type_27 : decode cX6_type 27 = .ok (.iconst 1, 1) := by decide +kernel
theorem dX6_type_28 : decode cX6_type 28 = .ok (.iadd, 1) := by decide +kernel
theorem dX6_type_29 : decode cX6_type 29 = .ok (.putfield 136, 3) := by decide +kernel
theorem dX6_type_32 : decode cX6_type 32 = .ok (.aload_n 0, 1) := by decide +kernel
theorem dX6_type_33 : decode cX6_type 33 = .ok (.getfield 136, 3) := by decide +kernel
theorem dX6_type_36 : decode cX6_type 36 = .ok (.ireturn, 1) := by decide +kernel
theorem dX6_clearText_0 : decode cX6_clearText 0 = .ok (.aload_n 0, 1) := by decide +kernel
theorem dX6_clearText_1 : decode cX6_clearText 1 = .ok (.getfield 136, 3) := by decide +kernel
theorem dX6_clearText_4 : decode cX6_clearText 4 = .ok (.istore_n 1, 1) := by decide +kernel
theorem dX6_clearText_5 : decode cX6_clearText 5 = .ok (.aload_n 0, 1) := by decide +kernel
theorem dX6_clearText_6 : decode cX6_clearText 6 = .ok (.iconst 0, 1) := by decide +kernel
theorem dX6_clearText_7 : decode cX6_clearText 7 = .ok (.putfield 136, 3) := by decide +kernel
theorem dX6_clearText_10 : decode cX6_clearText 10 = .ok (.iload_n 1, 1) := by decide +kernel
theorem dX6_clearText_11 : decode cX6_clearText 11 = .ok (.ireturn, 1) := by decide +kernel
theorem dX6_isNext_0 : decode cX6_isNext 0 = .ok (.aload_n 0, 1) := by decide +kernel
theorem dX6_isNext_1 : decode cX6_isNext 1 = .ok (.getfield 139, 3) := by decide +kernel
theorem dX6_isNext_4 : decode cX6_isNext 4 = .ok (.ifCond .ne 35, 3) := by decide +kernel
theorem dX6_isNext_7 : decode cX6_isNext 7 = .ok (.aload_n 0, 1) := by decide +kernel
theorem dX6_isNext_8 : decode cX6_isNext 8 = .ok (.getfield 143, 3) := by decide +kernel
theorem dX6_isNext_11 : decode cX6_isNext 11 = .ok (.aload_n 0, 1) := by decide +kernel
theorem dX6_isNext_12 : decode cX6_isNext 12 = .ok (.getfield 136, 3) := by decide +kernel
theorem dX6_isNext_15 : decode cX6_isNext 15 = .ok (.if_icmp .ge 24, 3) := by decide +kernel
theorem dX6_isNext_18 : decode cX6_isNext 18 = .ok (.aload_n 0, 1) := by decide +kernel
theorem dX6_isNext_19 : decode cX6_isNext 19 = .ok (.getfield 22, 3) := by decide +kernel
theorem dX6_isNext_22 : decode cX6_isNext 22 = .ok (.aload_n 0, 1) := by decide +kernel
theorem dX6_isNext_23 : decode cX6_isNext 23 = .ok (.getfield 143, 3) := by decide +kernel
theorem dX6_isNext_26 : decode cX6_isNext 26 = .ok (.iaload, 1) := by decide +kernel
theorem dX6_isNext_27 : decode cX6_isNext 27 = .ok (.iload_n 1, 1) := by decide +kernel
theorem dX6_isNext_28 : decode cX6_isNext 28 = .ok (.iload_n 2, 1) := by decide +kernel
theorem dX6_isNext_29 : decode cX6_isNext 29 = .ok (.invokestatic 38, 3) := by decide +kernel
theorem dX6_isNext_32 : decode cX6_isNext 32 = .ok (.ifCond .eq 7, 3) := by decide +kernel
theorem dX6_isNext_35 : decode cX6_isNext 35 = .ok (.iconst 1, 1) := by decide +kernel
theorem dX6_isNext_36 : decode cX6_isNext 36 = .ok (.goto 4, 3) := by decide +kernel
theorem dX6_isNext_39 : decode cX6_isNext 39 = .ok (.iconst 0, 1) := by decide +kernel
theorem dX6_isNext_40 : decode cX6_isNext 40 = .ok (.ireturn, 1) := by decide +kernel
theorem dX6_needs_0 : decode cX6_needs 0 = .ok (.aload_n 0, 1) := by decide +kernel
theorem dX6_needs_1 : decode cX6_needs 1 = .ok (.iload_n 1, 1) := by decide +kernel
theorem dX6_needs_2 : decode cX6_needs 2 = .ok (.iload_n 1, 1) := by decide +kernel
theorem dX6_needs_3 : decode cX6_needs 3 = .ok (.invokevirtual 146, 3) := by decide +kernel
theorem dX6_needs_6 : decode cX6_needs 6 = .ok (.istore_n 2, 1) := by decide +kernel
theorem dX6_needs_7 : decode cX6_needs 7 = .ok (.aload_n 0, 1) := by decide +kernel
theorem dX6_needs_8 : decode cX6_needs 8 = .ok (.dup, 1) := by decide +kernel
theorem dX6_needs_9 : decode cX6_needs 9 = .ok (.getfield 143, 3) := by decide +kernel
theorem dX6_needs_12 : decode cX6_needs 12 = .ok (.iload_n 2, 1) := by decide +kernel
theorem dX6_needs_13 : decode cX6_needs 13 = .ok (.ifCond .eq 7, 3) := by decide +kernel
theorem dX6_needs_16 : decode cX6_needs 16 = .ok (.iconst 1, 1) := by decide +kernel
theorem dX6_needs_17 : decode cX6_needs 17 = .ok (.goto 4, 3) := by decide +kernel
theorem dX6_needs_20 : decode cX6_needs 20 = .ok (.iconst 0, 1) := by decide +kernel
theorem dX6_needs_21 : decode cX6_needs 21 = .ok (.iadd, 1) := by decide +kernel
theorem dX6_needs_22 : decode cX6_needs 22 = .ok (.putfield 143, 3) := by decide +kernel
theorem dX6_needs_25 : decode cX6_needs 25 = .ok (.aload_n 0, 1) := by decide +kernel
theorem dX6_needs_26 : decode cX6_needs 26 = .ok (.aload_n 0, 1) := by decide +kernel
theorem dX6_needs_27 : decode cX6_needs 27 = .ok (.getfield 139, 3) := by decide +kernel
theorem dX6_needs_30 : decode cX6_needs 30 = .ok (.ifCond .ne 7, 3) := by decide +kernel
theorem dX6_needs_33 : decode cX6_needs 33 = .ok (.iload_n 2, 1) := by decide +kernel
theorem dX6_needs_34 : decode cX6_needs 34 = .ok (.ifCond .ne 7, 3) := by decide +kernel
theorem dX6_needs_37 : decode cX6_needs 37 = .ok (.iconst 1, 1) := by decide +kernel
theorem dX6_needs_38 : decode cX6_needs 38 = .ok (.goto 4, 3) := by decide +kernel
theorem dX6_needs_41 : decode cX6_needs 41 = .ok (.iconst 0, 1) := by decide +kernel
theorem dX6_needs_42 : decode cX6_needs 42 = .ok (.putfield 139, 3) := by decide +kernel
theorem dX6_needs_45 : decode cX6_needs 45 = .ok (.return_, 1) := by decide +kernel
theorem dX6_number_0 : decode cX6_number 0 = .ok (.aload_n 0, 1) := by decide +kernel
theorem dX6_number_1 : decode cX6_number 1 = .ok (.aload_n 0, 1) := by decide +kernel
theorem dX6_number_2 : decode cX6_number 2 = .ok (.getfield 139, 3) := by decide +kernel
theorem dX6_number_5 : decode cX6_number 5 = .ok (.ifCond .ne 14, 3) := by decide +kernel
theorem dX6_number_8 : decode cX6_number 8 = .ok (.aload_n 0, 1) := by decide +kernel
theorem dX6_number_9 : decode cX6_number 9 = .ok (.bipush 48, 2) := by decide +kernel
theorem dX6_number_11 : decode cX6_number 11 = .ok (.bipush 57, 2) := by decide +kernel
theorem dX6_number_13 : decode cX6_number 13 = .ok (.invokevirtual 146, 3) := by decide +kernel
theorem dX6_number_16 : decode cX6_number 16 = .ok (.ifCond .ne 7, 3) := by decide +kernel
theorem dX6_number_19 : decode cX6_number 19 = .ok (.iconst 1, 1) := by decide +kernel
theorem dX6_number_20 : decode cX6_number 20 = .ok (.goto 4, 3) := by decide +kernel
theorem dX6_number_23 : decode cX6_number 23 = .ok (.iconst 0, 1) := by decide +kernel
theorem dX6_number_24 : decode cX6_number 24 = .ok (.putfield 139, 3) := by decide +kernel
theorem dX6_number_27 : decode cX6_number 27 = .ok (.aload_n 0, 1) := by decide +kernel
theorem dX6_number_28 : decode cX6_number 28 = .ok (.getfield 139, 3) := by decide +kernel
theorem dX6_number_31 : decode cX6_number 31 = .ok (.ifCond .eq 7, 3) := by decide +kernel
theorem dX6_number_34 : decode cX6_number 34 = .ok (.iconst 0, 1) := by decide +kernel
theorem dX6_number_35 : decode cX6_number 35 = .ok (.goto 15, 3) := by decide +kernel
theorem dX6_number_38 : decode cX6_number 38 = .ok (.aload_n 0, 1) := by decide +kernel
theorem dX6_number_39 : decode cX6_number 39 = .ok (.getfield 22, 3) := by decide +kernel
theorem dX6_number_42 : decode cX6_number 42 = .ok (.aload_n 0, 1) := by decide +kernel
theorem dX6_number_43 : decode cX6_number 43 = .ok (.getfield 143, 3) := by decide +kernel
theorem dX6_number_46 : decode cX6_number 46 = .ok (.iaload, 1) := by decide +kernel
theorem dX6_number_47 : decode cX6_number 47 = .ok (.bipush 48, 2) := by decide +kernel
theorem dX6_number_49 : decode cX6_number 49 = .ok (.isub, 1) := by decide +kernel
theorem dX6_number_50 : decode cX6_number 50 = .ok (.istore_n 2, 1) := by decide +kernel
theorem dX6_number_51 : decode cX6_number 51 = .ok (.aload_n 0, 1) := by decide +kernel
theorem dX6_number_52 : decode cX6_number 52 = .ok (.aload_n 0, 1) := by decide +kernel
theorem dX6_number_53 : decode cX6_number 53 = .ok (.getfield 139, 3) := by decide +kernel
theorem dX6_number_56 : decode cX6_number 56 = .ok (.ifCond .ne 8, 3) := by decide +kernel
theorem dX6_number_59 : decode cX6_number 59 = .ok (.iload_n 2, 1) := by decide +kernel
theorem dX6_number_60 : decode cX6_number 60 = .ok (.iload_n 1, 1) := by decide +kernel
theorem dX6_number_61 : decode cX6_number 61 = .ok (.if_icmp .le 7, 3) := by decide +kernel
theorem dX6_number_64 : decode cX6_number 64 = .ok (.iconst 1, 1) := by decide +kernel
theorem dX6_number_65 : decode cX6_number 65 = .ok (.goto 4, 3) := by decide +kernel
theorem dX6_number_68 : decode cX6_number 68 = .ok (.iconst 0, 1) := by decide +kernel
theorem dX6_number_69 : decode cX6_number 69 = .ok (.putfield 139, 3) := by decide +kernel
theorem dX6_number_72 : decode cX6_number 72 = .ok (.aload_n 0, 1) := by decide +kernel
theorem dX6_number_73 : decode cX6_number 73 = .ok (.dup, 1) := by decide +kernel
theorem dX6_number_74 : decode cX6_number 74 = .ok (.getfield 143, 3) := by decide +kernel
theorem dX6_number_77 : decode cX6_number 77 = .ok (.aload_n 0, 1) := by decide +kernel
theorem dX6_number_78 : decode cX6_number 78 = .ok (.getfield 139, 3) := by decide +kernel
theorem dX6_number_81 : decode cX6_number 81 = .ok (.ifCond .eq 7, 3) := by decide +kernel
theorem dX6_number_84 : decode cX6_number 84 = .ok (.iconst 0, 1) := by decide +kernel
theorem dX6_number_85 : decode cX6_number 85 = .ok (.goto 4, 3) := by decide +kernel
theorem dX6_number_88 : decode cX6_number 88 = .ok (.iconst 1, 1) := by decide +kernel
theorem dX6_number_89 : decode cX6_number 89 = .ok (.iadd, 1) := by decide +kernel
theorem dX6_number_90 : decode cX6_number 90 = .ok (.putfield 143, 3) := by decide +kernel
theorem dX6_number_93 : decode cX6_number 93 = .ok (.iload_n 2, 1) := by decide +kernel
theorem dX6_number_94 : decode cX6_number 94 = .ok (.ifCond .le 66, 3) := by decide +kernel
theorem dX6_number_97 : decode cX6_number 97 = .ok (.aload_n 0, 1) := by decide +kernel
theorem dX6_number_98 : decode cX6_number 98 = .ok (.bipush 48, 2) := by decide +kernel
theorem dX6_number_100 : decode cX6_number 100 = .ok (.bipush 57, 2) := by decide +kernel
theorem dX6_number_102 : decode cX6_number 102 = .ok (.invokevirtual 146, 3) := by decide +kernel
theorem dX6_number_105 : decode cX6_number 105 = .ok (.ifCond .eq 55, 3) := by decide +kernel
theorem dX6_number_108 : decode cX6_number 108 = .ok (.bipush 10, 2) := by decide +kernel
theorem dX6_number_110 : decode cX6_number 110 = .ok (.iload_n 2, 1) := by decide +kernel
theorem dX6_number_111 : decode cX6_number 111 = .ok (.imul, 1) := by decide +kernel
theorem dX6_number_112 : decode cX6_number 112 = .ok (.aload_n 0, 1) := by decide +kernel
theorem dX6_number_113 : decode cX6_number 113 = .ok (.getfield 22, 3) := by decide +kernel
theorem dX6_number_116 : decode cX6_number 116 = .ok (.aload_n 0, 1) := by decide +kernel
theorem dX6_number_117 : decode cX6_number 117 = .ok (.getfield 143, 3) := by decide +kernel
theorem dX6_number_120 : decode cX6_number 120 = .ok (.iaload, 1) := by decide +kernel
theorem dX6_number_121 : decode cX6_number 121 = .ok (.iadd, 1) := by decide +kernel
theorem dX6_number_122 : decode cX6_number 122 = .ok (.bipush 48, 2) := by decide +kernel
theorem dX6_number_124 : decode cX6_number 124 = .ok (.isub, 1) := by decide +kernel
theorem dX6_number_125 : decode cX6_number 125 = .ok (.iload_n 1, 1) := by decide +kernel
theorem dX6_number_126 : decode cX6_number 126 = .ok (.if_icmp .gt 34, 3) := by decide +kernel
theorem dX6_number_129 : decode cX6_number 129 = .ok (.bipush 10, 2) := by decide +kernel
theorem dX6_number_131 : decode cX6_number 131 = .ok (.iload_n 2, 1) := by decide +kernel
theorem dX6_number_132 : decode cX6_number 132 = .ok (.imul, 1) := by decide +kernel
theorem dX6_number_133 : decode cX6_number 133 = .ok (.aload_n 0, 1) := by decide +kernel
theorem dX6_number_134 : decode cX6_number 134 = .ok (.getfield 22, 3) := by decide +kernel
theorem dX6_number_137 : decode cX6_number 137 = .ok (.aload_n 0, 1) := by decide +kernel
theorem dX6_number_138 : decode cX6_number 138 = .ok (.getfield 143, 3) := by decide +kernel
theorem dX6_number_141 : decode cX6_number 141 = .ok (.iaload, 1) := by decide +kernel
theorem dX6_number_142 : decode cX6_number 142 = .ok (.iadd, 1) := by decide +kernel
theorem dX6_number_143 : decode cX6_number 143 = .ok (.bipush 48, 2) := by decide +kernel
theorem dX6_number_145 : decode cX6_number 145 = .ok (.isub, 1) := by decide +kernel
theorem dX6_number_146 : decode cX6_number 146 = .ok (.istore_n 2, 1) := by decide +kernel
theorem dX6_number_147 : decode cX6_number 147 = .ok (.aload_n 0, 1) := by decide +kernel
theorem dX6_number_148 : decode cX6_number 148 = .ok (.dup, 1) := by decide +kernel
theorem dX6_number_149 : decode cX6_number 149 = .ok (.getfield 143, 3) := by decide +kernel
theorem dX6_number_152 : decode cX6_number 152 = .ok (.iconst 1, 1) := by decide +kernel
theorem dX6_number_153 : decode cX6_number 153 = .ok (.iadd, 1) := by decide +kernel
theorem dX6_number_154 : decode cX6_number 154 = .ok (.putfield 143, 3) := by decide +kernel
theorem dX6_number_157 : decode cX6_number 157 = .ok (.goto (-64), 3) := by decide +kernel
theorem dX6_number_160 : decode cX6_number 160 = .ok (.iload_n 2, 1) := by decide +kernel
theorem dX6_number_161 : decode cX6_number 161 = .ok (.ireturn, 1) := by decide +kernel
theorem dX6_reads_0 : decode cX6_reads 0 = .ok (.aload_n 0, 1) := by decide +kernel
theorem dX6_reads_1 : decode cX6_reads 1 = .ok (.bipush 11, 2) := by decide +kernel
theorem dX6_reads_3 : decode cX6_reads 3 = .ok (.invokevirtual 149, 3) := by decide +kernel
theorem dX6_reads_6 : decode cX6_reads 6 = .ok (.istore 4, 2) := by decide +kernel
theorem dX6_reads_8 : decode cX6_reads 8 = .ok (.aload_n 0, 1) := by decide +kernel
theorem dX6_reads_9 : decode cX6_reads 9 = .ok (.dup, 1) := by decide +kernel
theorem dX6_reads_10 : decode cX6_reads 10 = .ok (.getfield 152, 3) := by decide +kernel
theorem dX6_reads_13 : decode cX6_reads 13 = .ok (.iconst 1, 1) := by decide +kernel
theorem dX6_reads_14 : decode cX6_reads 14 = .ok (.iadd, 1) := by decide +kernel
theorem dX6_reads_15 : decode cX6_reads 15 = .ok (.putfield 152, 3) := by decide +kernel
theorem dX6_reads_18 : decode cX6_reads 18 = .ok (.iload_n 1, 1) := by decide +kernel
theorem dX6_reads_19 : decode cX6_reads 19 = .ok (.ifCond .eq 35, 3) := by decide +kernel
theorem dX6_reads_22 : decode cX6_reads 22 = .ok (.aload_n 0, 1) := by decide +kernel
theorem dX6_reads_23 : decode cX6_reads 23 = .ok (.getfield 155, 3) := by decide +kernel
theorem dX6_reads_26 : decode cX6_reads 26 = .ok (.ifCond .ne 28, 3) := by decide +kernel
theorem dX6_reads_29 : decode cX6_reads 29 = .ok (.aload_n 0, 1) := by decide +kernel
theorem dX6_reads_30 : decode cX6_reads 30 = .ok (.iload_n 2, 1) := by decide +kernel
theorem dX6_reads_31 : decode cX6_reads 31 = .ok (.iload_n 3, 1) := by decide +kernel
theorem dX6_reads_32 : decode cX6_reads 32 = .ok (.iload 4, 2) := by decide +kernel
theorem dX6_reads_34 : decode cX6_reads 34 = .ok (.invokevirtual 126, 3) := by decide +kernel
theorem dX6_reads_37 : decode cX6_reads 37 = .ok (.istore 5, 2) := by decide +kernel
theorem dX6_reads_39 : decode cX6_reads 39 = .ok (.aload_n 0, 1) := by decide +kernel
theorem dX6_reads_40 : decode cX6_reads 40 = .ok (.iload 5, 2) := by decide +kernel
theorem dX6_reads_42 : decode cX6_reads 42 = .ok (.ifCond .ge 8, 3) := by decide +kernel
theorem dX6_reads_45 : decode cX6_reads 45 = .ok (.iload 5, 2) := by decide +kernel
theorem dX6_reads_47 : decode cX6_reads 47 = .ok (.goto 4, 3) := by decide +kernel
theorem dX6_reads_50 : decode cX6_reads 50 = .ok (.iconst 0, 1) := by decide +kernel
theorem dX6_reads_51 : decode cX6_reads 51 = .ok (.putfield 155, 3) := by decide +kernel
theorem dX6_reads_54 : decode cX6_reads 54 = .ok (.return_, 1) := by decide +kernel
theorem dX6_readsBooking_0 : decode cX6_readsBooking 0 = .ok (.aload_n 0, 1) := by decide +kernel
theorem dX6_readsBooking_1 : decode cX6_readsBooking 1 = .ok (.bipush 43, 2) := by decide +kernel
theorem dX6_readsBooking_3 : decode cX6_readsBooking 3 = .ok (.invokevirtual 158, 3) := by decide +kernel
theorem dX6_readsBooking_6 : decode cX6_readsBooking 6 = .ok (.aload_n 0, 1) := by decide +kernel
theorem dX6_readsBooking_7 : decode cX6_readsBooking 7 = .ok (.bipush 99, 2) := by decide +kernel
theorem dX6_readsBooking_9 : decode cX6_readsBooking 9 = .ok (.invokevirtual 149, 3) := by decide +kernel
theorem dX6_readsBooking_12 : decode cX6_readsBooking 12 = .ok (.istore_n 2, 1) := by decide +kernel
theorem dX6_readsBooking_13 : decode cX6_readsBooking 13 = .ok (.aload_n 0, 1) := by decide +kernel
theorem dX6_readsBooking_14 : decode cX6_readsBooking 14 = .ok (.bipush 47, 2) := by decide +kernel
theorem dX6_readsBooking_16 : decode cX6_readsBooking 16 = .ok (.invokevirtual 158, 3) := by decide +kernel
theorem dX6_readsBooking_19 : decode cX6_readsBooking 19 = .ok (.aload_n 0, 1) := by decide +kernel
theorem dX6_readsBooking_20 : decode cX6_readsBooking 20 = .ok (.iconst 2, 1) := by decide +kernel
theorem dX6_readsBooking_21 : decode cX6_readsBooking 21 = .ok (.invokevirtual 149, 3) := by decide +kernel
theorem dX6_readsBooking_24 : decode cX6_readsBooking 24 = .ok (.istore_n 3, 1) := by decide +kernel
theorem dX6_readsBooking_25 : decode cX6_readsBooking 25 = .ok (.aload_n 0, 1) := by decide +kernel
theorem dX6_readsBooking_26 : decode cX6_readsBooking 26 = .ok (.bipush 58, 2) := by decide +kernel
theorem dX6_readsBooking_28 : decode cX6_readsBooking 28 = .ok (.invokevirtual 158, 3) := by decide +kernel
theorem dX6_readsBooking_31 : decode cX6_readsBooking 31 = .ok (.aload_n 0, 1) := by decide +kernel
theorem dX6_readsBooking_32 : decode cX6_readsBooking 32 = .ok (.iload_n 1, 1) := by decide +kernel
theorem dX6_readsBooking_33 : decode cX6_readsBooking 33 = .ok (.iload_n 2, 1) := by decide +kernel
theorem dX6_readsBooking_34 : decode cX6_readsBooking 34 = .ok (.iload_n 3, 1) := by decide +kernel
theorem dX6_readsBooking_35 : decode cX6_readsBooking 35 = .ok (.invokevirtual 161, 3) := by decide +kernel
theorem dX6_readsBooking_38 : decode cX6_readsBooking 38 = .ok (.aload_n 0, 1) := by decide +kernel
theorem dX6_readsBooking_39 : decode cX6_readsBooking 39 = .ok (.bipush 44, 2) := by decide +kernel
theorem dX6_readsBooking_41 : decode cX6_readsBooking 41 = .ok (.bipush 44, 2) := by decide +kernel
theorem dX6_readsBooking_43 : decode cX6_readsBooking 43 = .ok (.invokevirtual 146, 3) := by decide +kernel
theorem dX6_readsBooking_46 : decode cX6_readsBooking 46 = .ok (.ifCond .eq 23, 3) := by decide +kernel
theorem dX6_readsBooking_49 : decode cX6_readsBooking 49 = .ok (.aload_n 0, 1) := by decide +kernel
theorem dX6_readsBooking_50 : decode cX6_readsBooking 50 = .ok (.dup, 1) := by decide +kernel
theorem dX6_readsBooking_51 : decode cX6_readsBooking 51 = .ok (.getfield 143, 3) := by decide +kernel
theorem dX6_readsBooking_54 : decode cX6_readsBooking 54 = .ok (.iconst 1, 1) := by decide +kernel
theorem dX6_readsBooking_55 : decode cX6_readsBooking 55 = .ok (.iadd, 1) := by decide +kernel
theorem dX6_readsBooking_56 : decode cX6_readsBooking 56 = .ok (.putfield 143, 3) := by decide +kernel
theorem dX6_readsBooking_59 : decode cX6_readsBooking 59 = .ok (.aload_n 0, 1) := by decide +kernel
theorem dX6_readsBooking_60 : decode cX6_readsBooking 60 = .ok (.iload_n 1, 1) := by decide +kernel
theorem dX6_readsBooking_61 : decode cX6_readsBooking 61 = .ok (.iload_n 2, 1) := by decide +kernel
theorem dX6_readsBooking_62 : decode cX6_readsBooking 62 = .ok (.iload_n 3, 1) := by decide +kernel
theorem dX6_readsBooking_63 : decode cX6_readsBooking 63 = .ok (.invokevirtual 161, 3) := by decide +kernel
theorem dX6_readsBooking_66 : decode cX6_readsBooking 66 = .ok (.goto (-28), 3) := by decide +kernel
theorem dX6_readsBooking_69 : decode cX6_readsBooking 69 = .ok (.return_, 1) := by decide +kernel
theorem dX6_readsPlan_0 : decode cX6_readsPlan 0 = .ok (.aload_n 0, 1) := by decide +kernel
theorem dX6_readsPlan_1 : decode cX6_readsPlan 1 = .ok (.iconst 0, 1) := by decide +kernel
theorem dX6_readsPlan_2 : decode cX6_readsPlan 2 = .ok (.putfield 143, 3) := by decide +kernel
theorem dX6_readsPlan_5 : decode cX6_readsPlan 5 = .ok (.aload_n 0, 1) := by decide +kernel
theorem dX6_readsPlan_6 : decode cX6_readsPlan 6 = .ok (.iconst 0, 1) := by decide +kernel
theorem dX6_readsPlan_7 : decode cX6_readsPlan 7 = .ok (.putfield 139, 3) := by decide +kernel
theorem dX6_readsPlan_10 : decode cX6_readsPlan 10 = .ok (.aload_n 0, 1) := by decide +kernel
theorem dX6_readsPlan_11 : decode cX6_readsPlan 11 = .ok (.iconst 0, 1) := by decide +kernel
theorem dX6_readsPlan_12 : decode cX6_readsPlan 12 = .ok (.putfield 152, 3) := by decide +kernel
theorem dX6_readsPlan_15 : decode cX6_readsPlan 15 = .ok (.aload_n 0, 1) := by decide +kernel
theorem dX6_readsPlan_16 : decode cX6_readsPlan 16 = .ok (.iconst 0, 1) := by decide +kernel
theorem dX6_readsPlan_17 : decode cX6_readsPlan 17 = .ok (.putfield 155, 3) := by decide +kernel
theorem dX6_readsPlan_20 : decode cX6_readsPlan 20 = .ok (.iconst 1, 1) := by decide +kernel
theorem dX6_readsPlan_21 : decode cX6_readsPlan 21 = .ok (.istore_n 2, 1) := by decide +kernel
theorem dX6_readsPlan_22 : decode cX6_readsPlan 22 = .ok (.iload_n 2, 1) := by decide +kernel
theorem dX6_readsPlan_23 : decode cX6_readsPlan 23 = .ok (.ifCond .eq 58, 3) := by decide +kernel
theorem dX6_readsPlan_26 : decode cX6_readsPlan 26 = .ok (.aload_n 0, 1) := by decide +kernel
theorem dX6_readsPlan_27 : decode cX6_readsPlan 27 = .ok (.iload_n 1, 1) := by decide +kernel
theorem dX6_readsPlan_28 : decode cX6_readsPlan 28 = .ok (.invokevirtual 165, 3) := by decide +kernel
theorem dX6_readsPlan_31 : decode cX6_readsPlan 31 = .ok (.aload_n 0, 1) := by decide +kernel
theorem dX6_readsPlan_32 : decode cX6_readsPlan 32 = .ok (.getfield 139, 3) := by decide +kernel
theorem dX6_readsPlan_35 : decode cX6_readsPlan 35 = .ok (.ifCond .ne 18, 3) := by decide +kernel
theorem dX6_readsPlan_38 : decode cX6_readsPlan 38 = .ok (.aload_n 0, 1) := by decide +kernel
theorem dX6_readsPlan_39 : decode cX6_readsPlan 39 = .ok (.getfield 143, 3) := by decide +kernel
theorem dX6_readsPlan_42 : decode cX6_readsPlan 42 = .ok (.aload_n 0, 1) := by decide +kernel
theorem dX6_readsPlan_43 : decode cX6_readsPlan 43 = .ok (.getfield 136, 3) := by decide +kernel
theorem dX6_readsPlan_46 : decode cX6_readsPlan 46 = .ok (.if_icmp .ge 7, 3) := by decide +kernel
theorem dX6_readsPlan_49 : decode cX6_readsPlan 49 = .ok (.iconst 1, 1) := by decide +kernel
theorem dX6_readsPlan_50 : decode cX6_readsPlan 50 = .ok (.goto 4, 3) := by decide +kernel
theorem dX6_readsPlan_53 : decode cX6_readsPlan 53 = .ok (.iconst 0, 1) := by decide +kernel
theorem dX6_readsPlan_54 : decode cX6_readsPlan 54 = .ok (.istore_n 2, 1) := by decide +kernel
theorem dX6_readsPlan_55 : decode cX6_readsPlan 55 = .ok (.iload_n 2, 1) := by decide +kernel
theorem dX6_readsPlan_56 : decode cX6_readsPlan 56 = .ok (.ifCond .eq (-34), 3) := by decide +kernel
theorem dX6_readsPlan_59 : decode cX6_readsPlan 59 = .ok (.aload_n 0, 1) := by decide +kernel
theorem dX6_readsPlan_60 : decode cX6_readsPlan 60 = .ok (.bipush 59, 2) := by decide +kernel
theorem dX6_readsPlan_62 : decode cX6_readsPlan 62 = .ok (.invokevirtual 158, 3) := by decide +kernel
theorem dX6_readsPlan_65 : decode cX6_readsPlan 65 = .ok (.aload_n 0, 1) := by decide +kernel
theorem dX6_readsPlan_66 : decode cX6_readsPlan 66 = .ok (.getfield 139, 3) := by decide +kernel
theorem dX6_readsPlan_69 : decode cX6_readsPlan 69 = .ok (.ifCond .ne 7, 3) := by decide +kernel
theorem dX6_readsPlan_72 : decode cX6_readsPlan 72 = .ok (.iconst 1, 1) := by decide +kernel
theorem dX6_readsPlan_73 : decode cX6_readsPlan 73 = .ok (.goto 4, 3) := by decide +kernel
theorem dX6_readsPlan_76 : decode cX6_readsPlan 76 = .ok (.iconst 0, 1) := by decide +kernel
theorem dX6_readsPlan_77 : decode cX6_readsPlan 77 = .ok (.istore_n 2, 1) := by decide +kernel
theorem dX6_readsPlan_78 : decode cX6_readsPlan 78 = .ok (.goto (-56), 3) := by decide +kernel
theorem dX6_readsPlan_81 : decode cX6_readsPlan 81 = .ok (.aload_n 0, 1) := by decide +kernel
theorem dX6_readsPlan_82 : decode cX6_readsPlan 82 = .ok (.getfield 139, 3) := by decide +kernel
theorem dX6_readsPlan_85 : decode cX6_readsPlan 85 = .ok (.ifCond .eq 10, 3) := by decide +kernel
theorem dX6_readsPlan_88 : decode cX6_readsPlan 88 = .ok (.aload_n 0, 1) := by decide +kernel
theorem dX6_readsPlan_89 : decode cX6_readsPlan 89 = .ok (.getfield 143, 3) := by decide +kernel
theorem dX6_readsPlan_92 : decode cX6_readsPlan 92 = .ok (.goto 5, 3) := by decide +kernel
theorem dX6_readsPlan_95 : decode cX6_readsPlan 95 = .ok (.bipush (-5), 2) := by decide +kernel
theorem dX6_readsPlan_97 : decode cX6_readsPlan 97 = .ok (.ireturn, 1) := by decide +kernel
theorem dX6_bookPlan_0 : decode cX6_bookPlan 0 = .ok (.aload_n 0, 1) := by decide +kernel
theorem dX6_bookPlan_1 : decode cX6_bookPlan 1 = .ok (.iconst 0, 1) := by decide +kernel
theorem dX6_bookPlan_2 : decode cX6_bookPlan 2 = .ok (.invokevirtual 169, 3) := by decide +kernel
theorem dX6_bookPlan_5 : decode cX6_bookPlan 5 = .ok (.istore_n 1, 1) := by decide +kernel
theorem dX6_bookPlan_6 : decode cX6_bookPlan 6 = .ok (.iload_n 1, 1) := by decide +kernel
theorem dX6_bookPlan_7 : decode cX6_bookPlan 7 = .ok (.bipush (-5), 2) := by decide +kernel
theorem dX6_bookPlan_9 : decode cX6_bookPlan 9 = .ok (.if_icmp .eq 8, 3) := by decide +kernel
theorem dX6_bookPlan_12 : decode cX6_bookPlan 12 = .ok (.bipush (-100), 2) := by decide +kernel
theorem dX6_bookPlan_14 : decode cX6_bookPlan 14 = .ok (.iload_n 1, 1) := by decide +kernel
theorem dX6_bookPlan_15 : decode cX6_bookPlan 15 = .ok (.isub, 1) := by decide +kernel
theorem dX6_bookPlan_16 : decode cX6_bookPlan 16 = .ok (.ireturn, 1) := by decide +kernel
theorem dX6_bookPlan_17 : decode cX6_bookPlan 17 = .ok (.aload_n 0, 1) := by decide +kernel
theorem dX6_bookPlan_18 : decode cX6_bookPlan 18 = .ok (.invokevirtual 123, 3) := by decide +kernel
theorem dX6_bookPlan_21 : decode cX6_bookPlan 21 = .ok (.aload_n 0, 1) := by decide +kernel
theorem dX6_bookPlan_22 : decode cX6_bookPlan 22 = .ok (.iconst 1, 1) := by decide +kernel
theorem dX6_bookPlan_23 : decode cX6_bookPlan 23 = .ok (.invokevirtual 169, 3) := by decide +kernel
theorem dX6_bookPlan_26 : decode cX6_bookPlan 26 = .ok (.istore_n 1, 1) := by decide +kernel
theorem dX6_bookPlan_27 : decode cX6_bookPlan 27 = .ok (.aload_n 0, 1) := by decide +kernel
theorem dX6_bookPlan_28 : decode cX6_bookPlan 28 = .ok (.getfield 155, 3) := by decide +kernel
theorem dX6_bookPlan_31 : decode cX6_bookPlan 31 = .ok (.ifCond .ge 12, 3) := by decide +kernel
theorem dX6_bookPlan_34 : decode cX6_bookPlan 34 = .ok (.aload_n 0, 1) := by decide +kernel
theorem dX6_bookPlan_35 : decode cX6_bookPlan 35 = .ok (.invokevirtual 172, 3) := by decide +kernel
theorem dX6_bookPlan_38 : decode cX6_bookPlan 38 = .ok (.aload_n 0, 1) := by decide +kernel
theorem dX6_bookPlan_39 : decode cX6_bookPlan 39 = .ok (.getfield 155, 3) := by decide +kernel
theorem dX6_bookPlan_42 : decode cX6_bookPlan 42 = .ok (.ireturn, 1) := by decide +kernel
theorem dX6_bookPlan_43 : decode cX6_bookPlan 43 = .ok (.aload_n 0, 1) := by decide +kernel
theorem dX6_bookPlan_44 : decode cX6_bookPlan 44 = .ok (.invokevirtual 129, 3) := by decide +kernel
theorem dX6_bookPlan_47 : decode cX6_bookPlan 47 = .ok (.aload_n 0, 1) := by decide +kernel
theorem dX6_bookPlan_48 : decode cX6_bookPlan 48 = .ok (.getfield 152, 3) := by decide +kernel
theorem dX6_bookPlan_51 : decode cX6_bookPlan 51 = .ok (.ireturn, 1) := by decide +kernel
theorem dX6_undo_0 : decode cX6_undo 0 = .ok (.aload_n 0, 1) := by decide +kernel
theorem dX6_undo_1 : decode cX6_undo 1 = .ok (.getfield 42, 3) := by decide +kernel
theorem dX6_undo_4 : decode cX6_undo 4 = .ok (.ifCond .ne 6, 3) := by decide +kernel
theorem dX6_undo_7 : decode cX6_undo 7 = .ok (.bipush (-5), 2) := by decide +kernel
theorem dX6_undo_9 : decode cX6_undo 9 = .ok (.ireturn, 1) := by decide +kernel
theorem dX6_undo_10 : decode cX6_undo 10 = .ok (.aload_n 0, 1) := by decide +kernel
theorem dX6_undo_11 : decode cX6_undo 11 = .ok (.dup, 1) := by decide +kernel
theorem dX6_undo_12 : decode cX6_undo 12 = .ok (.getfield 42, 3) := by decide +kernel
theorem dX6_undo_15 : decode cX6_undo 15 = .ok (.iconst 1, 1) := by decide +kernel
theorem dX6_undo_16 : decode cX6_undo 16 = .ok (.isub, 1) := by decide +kernel
theorem dX6_undo_17 : decode cX6_undo 17 = .ok (.putfield 42, 3) := by decide +kernel
theorem dX6_undo_20 : decode cX6_undo 20 = .ok (.iconst 0, 1) := by decide +kernel
theorem dX6_undo_21 : decode cX6_undo 21 = .ok (.istore_n 1, 1) := by decide +kernel
theorem dX6_undo_22 : decode cX6_undo 22 = .ok (.iload_n 1, 1) := by decide +kernel
theorem dX6_undo_23 : decode cX6_undo 23 = .ok (.sipush 378, 3) := by decide +kernel
theorem dX6_undo_26 : decode cX6_undo 26 = .ok (.if_icmp .ge 30, 3) := by decide +kernel
theorem dX6_undo_29 : decode cX6_undo 29 = .ok (.aload_n 0, 1) := by decide +kernel
theorem dX6_undo_30 : decode cX6_undo 30 = .ok (.getfield 7, 3) := by decide +kernel
theorem dX6_undo_33 : decode cX6_undo 33 = .ok (.iload_n 1, 1) := by decide +kernel
theorem dX6_undo_34 : decode cX6_undo 34 = .ok (.aload_n 0, 1) := by decide +kernel
theorem dX6_undo_35 : decode cX6_undo 35 = .ok (.getfield 16, 3) := by decide +kernel
theorem dX6_undo_38 : decode cX6_undo 38 = .ok (.sipush 378, 3) := by decide +kernel
theorem dX6_undo_41 : decode cX6_undo 41 = .ok (.aload_n 0, 1) := by decide +kernel
theorem dX6_undo_42 : decode cX6_undo 42 = .ok (.getfield 42, 3) := by decide +kernel
theorem dX6_undo_45 : decode cX6_undo 45 = .ok (.imul, 1) := by decide +kernel
theorem dX6_undo_46 : decode cX6_undo 46 = .ok (.iload_n 1, 1) := by decide +kernel
theorem dX6_undo_47 : decode cX6_undo 47 = .ok (.iadd, 1) := by decide +kernel
theorem dX6_undo_48 : decode cX6_undo 48 = .ok (.iaload, 1) := by decide +kernel
theorem dX6_undo_49 : decode cX6_undo 49 = .ok (.iastore, 1) := by decide +kernel
theorem dX6_undo_50 : decode cX6_undo 50 = .ok (.iinc 1 1, 3) := by decide +kernel
theorem dX6_undo_53 : decode cX6_undo 53 = .ok (.goto (-31), 3) := by decide +kernel
theorem dX6_undo_56 : decode cX6_undo 56 = .ok (.aload_n 0, 1) := by decide +kernel
theorem dX6_undo_57 : decode cX6_undo 57 = .ok (.getfield 42, 3) := by decide +kernel
theorem dX6_undo_60 : decode cX6_undo 60 = .ok (.ireturn, 1) := by decide +kernel
theorem dX6_keep_0 : decode cX6_keep 0 = .ok (.iconst 0, 1) := by decide +kernel
theorem dX6_keep_1 : decode cX6_keep 1 = .ok (.istore_n 1, 1) := by decide +kernel
theorem dX6_keep_2 : decode cX6_keep 2 = .ok (.iload_n 1, 1) := by decide +kernel
theorem dX6_keep_3 : decode cX6_keep 3 = .ok (.sipush 378, 3) := by decide +kernel
theorem dX6_keep_6 : decode cX6_keep 6 = .ok (.if_icmp .ge 21, 3) := by decide +kernel
theorem dX6_keep_9 : decode cX6_keep 9 = .ok (.aload_n 0, 1) := by decide +kernel
theorem dX6_keep_10 : decode cX6_keep 10 = .ok (.getfield 19, 3) := by decide +kernel
theorem dX6_keep_13 : decode cX6_keep 13 = .ok (.iload_n 1, 1) := by decide +kernel
theorem dX6_keep_14 : decode cX6_keep 14 = .ok (.aload_n 0, 1) := by decide +kernel
theorem dX6_keep_15 : decode cX6_keep 15 = .ok (.getfield 7, 3) := by decide +kernel
theorem dX6_keep_18 : decode cX6_keep 18 = .ok (.iload_n 1, 1) := by decide +kernel
theorem dX6_keep_19 : decode cX6_keep 19 = .ok (.iaload, 1) := by decide +kernel
theorem dX6_keep_20 : decode cX6_keep 20 = .ok (.iastore, 1) := by decide +kernel
theorem dX6_keep_21 : decode cX6_keep 21 = .ok (.iinc 1 1, 3) := by decide +kernel
theorem dX6_keep_24 : decode cX6_keep 24 = .ok (.goto (-22), 3) := by decide +kernel
theorem dX6_keep_27 : decode cX6_keep 27 = .ok (.aload_n 0, 1) := by decide +kernel
theorem dX6_keep_28 : decode cX6_keep 28 = .ok (.iconst 1, 1) := by decide +kernel
theorem dX6_keep_29 : decode cX6_keep 29 = .ok (.putfield 175, 3) := by decide +kernel
theorem dX6_keep_32 : decode cX6_keep 32 = .ok (.aload_n 0, 1) := by decide +kernel
theorem dX6_keep_33 : decode cX6_keep 33 = .ok (.getfield 7, 3) := by decide +kernel
theorem dX6_keep_36 : decode cX6_keep 36 = .ok (.iconst 0, 1) := by decide +kernel
theorem dX6_keep_37 : decode cX6_keep 37 = .ok (.iaload, 1) := by decide +kernel
theorem dX6_keep_38 : decode cX6_keep 38 = .ok (.ireturn, 1) := by decide +kernel
theorem dX6_restore_0 : decode cX6_restore 0 = .ok (.aload_n 0, 1) := by decide +kernel
theorem dX6_restore_1 : decode cX6_restore 1 = .ok (.getfield 175, 3) := by decide +kernel
theorem dX6_restore_4 : decode cX6_restore 4 = .ok (.ifCond .ne 6, 3) := by decide +kernel
theorem dX6_restore_7 : decode cX6_restore 7 = .ok (.bipush (-5), 2) := by decide +kernel
theorem dX6_restore_9 : decode cX6_restore 9 = .ok (.ireturn, 1) := by decide +kernel
theorem dX6_restore_10 : decode cX6_restore 10 = .ok (.aload_n 0, 1) := by decide +kernel
theorem dX6_restore_11 : decode cX6_restore 11 = .ok (.invokevirtual 99, 3) := by decide +kernel
theorem dX6_restore_14 : decode cX6_restore 14 = .ok (.iconst 0, 1) := by decide +kernel
theorem dX6_restore_15 : decode cX6_restore 15 = .ok (.istore_n 1, 1) := by decide +kernel
theorem dX6_restore_16 : decode cX6_restore 16 = .ok (.iload_n 1, 1) := by decide +kernel
theorem dX6_restore_17 : decode cX6_restore 17 = .ok (.sipush 378, 3) := by decide +kernel
theorem dX6_restore_20 : decode cX6_restore 20 = .ok (.if_icmp .ge 21, 3) := by decide +kernel
theorem dX6_restore_23 : decode cX6_restore 23 = .ok (.aload_n 0, 1) := by decide +kernel
theorem dX6_restore_24 : decode cX6_restore 24 = .ok (.getfield 7, 3) := by decide +kernel
theorem dX6_restore_27 : decode cX6_restore 27 = .ok (.iload_n 1, 1) := by decide +kernel
theorem dX6_restore_28 : decode cX6_restore 28 = .ok (.aload_n 0, 1) := by decide +kernel
theorem dX6_restore_29 : decode cX6_restore 29 = .ok (.getfield 19, 3) := by decide +kernel
theorem dX6_restore_32 : decode cX6_restore 32 = .ok (.iload_n 1, 1) := by decide +kernel
theorem dX6_restore_33 : decode cX6_restore 33 = .ok (.iaload, 1) := by decide +kernel
theorem dX6_restore_34 : decode cX6_restore 34 = .ok (.iastore, 1) := by decide +kernel
theorem dX6_restore_35 : decode cX6_restore 35 = .ok (.iinc 1 1, 3) := by decide +kernel
theorem dX6_restore_38 : decode cX6_restore 38 = .ok (.goto (-22), 3) := by decide +kernel
theorem dX6_restore_41 : decode cX6_restore 41 = .ok (.aload_n 0, 1) := by decide +kernel
theorem dX6_restore_42 : decode cX6_restore 42 = .ok (.getfield 7, 3) := by decide +kernel
theorem dX6_restore_45 : decode cX6_restore 45 = .ok (.iconst 0, 1) := by decide +kernel
theorem dX6_restore_46 : decode cX6_restore 46 = .ok (.iaload, 1) := by decide +kernel
theorem dX6_restore_47 : decode cX6_restore 47 = .ok (.ireturn, 1) := by decide +kernel
theorem dX6_horse_0 : decode cX6_horse 0 = .ok (.iload_n 1, 1) := by decide +kernel
theorem dX6_horse_1 : decode cX6_horse 1 = .ok (.invokestatic 95, 3) := by decide +kernel
theorem dX6_horse_4 : decode cX6_horse 4 = .ok (.ifCond .ne 5, 3) := by decide +kernel
theorem dX6_horse_7 : decode cX6_horse 7 = .ok (.iconst (-1), 1) := by decide +kernel
theorem dX6_horse_8 : decode cX6_horse 8 = .ok (.ireturn, 1) := by decide +kernel
theorem dX6_horse_9 : decode cX6_horse 9 = .ok (.iload_n 2, 1) := by decide +kernel
theorem dX6_horse_10 : decode cX6_horse 10 = .ok (.iconst 0, 1) := by decide +kernel
theorem dX6_horse_11 : decode cX6_horse 11 = .ok (.bipush 8, 2) := by decide +kernel
theorem dX6_horse_13 : decode cX6_horse 13 = .ok (.invokestatic 38, 3) := by decide +kernel
theorem dX6_horse_16 : decode cX6_horse 16 = .ok (.ifCond .eq 16, 3) := by decide +kernel
theorem dX6_horse_19 : decode cX6_horse 19 = .ok (.aload_n 0, 1) := by decide +kernel
theorem dX6_horse_20 : decode cX6_horse 20 = .ok (.getfield 7, 3) := by decide +kernel
theorem dX6_horse_23 : decode cX6_horse 23 = .ok (.iload_n 1, 1) := by decide +kernel
theorem dX6_horse_24 : decode cX6_horse 24 = .ok (.iload_n 2, 1) := by decide +kernel
theorem dX6_horse_25 : decode cX6_horse 25 = .ok (.invokestatic 31, 3) := by decide +kernel
theorem dX6_horse_28 : decode cX6_horse 28 = .ok (.iaload, 1) := by decide +kernel
theorem dX6_horse_29 : decode cX6_horse 29 = .ok (.goto 5, 3) := by decide +kernel
theorem dX6_horse_32 : decode cX6_horse 32 = .ok (.bipush (-2), 2) := by decide +kernel
theorem dX6_horse_34 : decode cX6_horse 34 = .ok (.ireturn, 1) := by decide +kernel
theorem dX6_bookingsOf_0 : decode cX6_bookingsOf 0 = .ok (.iconst 0, 1) := by decide +kernel
theorem dX6_bookingsOf_1 : decode cX6_bookingsOf 1 = .ok (.istore_n 2, 1) := by decide +kernel
theorem dX6_bookingsOf_2 : decode cX6_bookingsOf 2 = .ok (.iconst 0, 1) := by decide +kernel
theorem dX6_bookingsOf_3 : decode cX6_bookingsOf 3 = .ok (.istore_n 3, 1) := by decide +kernel
theorem dX6_bookingsOf_4 : decode cX6_bookingsOf 4 = .ok (.iload_n 3, 1) := by decide +kernel
theorem dX6_bookingsOf_5 : decode cX6_bookingsOf 5 = .ok (.aload_n 0, 1) := by decide +kernel
theorem dX6_bookingsOf_6 : decode cX6_bookingsOf 6 = .ok (.getfield 7, 3) := by decide +kernel
theorem dX6_bookingsOf_9 : decode cX6_bookingsOf 9 = .ok (.sipush 192, 3) := by decide +kernel
theorem dX6_bookingsOf_12 : decode cX6_bookingsOf 12 = .ok (.iaload, 1) := by decide +kernel
theorem dX6_bookingsOf_13 : decode cX6_bookingsOf 13 = .ok (.if_icmp .ge 31, 3) := by decide +kernel
theorem dX6_bookingsOf_16 : decode cX6_bookingsOf 16 = .ok (.iload_n 2, 1) := by decide +kernel
theorem dX6_bookingsOf_17 : decode cX6_bookingsOf 17 = .ok (.aload_n 0, 1) := by decide +kernel
theorem dX6_bookingsOf_18 : decode cX6_bookingsOf 18 = .ok (.getfield 7, 3) := by decide +kernel
theorem dX6_bookingsOf_21 : decode cX6_bookingsOf 21 = .ok (.iload_n 3, 1) := by decide +kernel
theorem dX6_bookingsOf_22 : decode cX6_bookingsOf 22 = .ok (.iconst 2, 1) := by decide +kernel
theorem dX6_bookingsOf_23 : decode cX6_bookingsOf 23 = .ok (.invokestatic 75, 3) := by decide +kernel
theorem dX6_bookingsOf_26 : decode cX6_bookingsOf 26 = .ok (.iaload, 1) := by decide +kernel
theorem dX6_bookingsOf_27 : decode cX6_bookingsOf 27 = .ok (.iload_n 1, 1) := by decide +kernel
theorem dX6_bookingsOf_28 : decode cX6_bookingsOf 28 = .ok (.if_icmp .ne 7, 3) := by decide +kernel
theorem dX6_bookingsOf_31 : decode cX6_bookingsOf 31 = .ok (.iconst 1, 1) := by decide +kernel
theorem dX6_bookingsOf_32 : decode cX6_bookingsOf 32 = .ok (.goto 4, 3) := by decide +kernel
theorem dX6_bookingsOf_35 : decode cX6_bookingsOf 35 = .ok (.iconst 0, 1) := by decide +kernel
theorem dX6_bookingsOf_36 : decode cX6_bookingsOf 36 = .ok (.iadd, 1) := by decide +kernel
theorem dX6_bookingsOf_37 : decode cX6_bookingsOf 37 = .ok (.istore_n 2, 1) := by decide +kernel
theorem dX6_bookingsOf_38 : decode cX6_bookingsOf 38 = .ok (.iinc 3 1, 3) := by decide +kernel
theorem dX6_bookingsOf_41 : decode cX6_bookingsOf 41 = .ok (.goto (-37), 3) := by decide +kernel
theorem dX6_bookingsOf_44 : decode cX6_bookingsOf 44 = .ok (.iload_n 2, 1) := by decide +kernel
theorem dX6_bookingsOf_45 : decode cX6_bookingsOf 45 = .ok (.ireturn, 1) := by decide +kernel
theorem dX6_rider_0 : decode cX6_rider 0 = .ok (.iload_n 1, 1) := by decide +kernel
theorem dX6_rider_1 : decode cX6_rider 1 = .ok (.invokestatic 102, 3) := by decide +kernel
theorem dX6_rider_4 : decode cX6_rider 4 = .ok (.ifCond .ne 5, 3) := by decide +kernel
theorem dX6_rider_7 : decode cX6_rider 7 = .ok (.iconst (-1), 1) := by decide +kernel
theorem dX6_rider_8 : decode cX6_rider 8 = .ok (.ireturn, 1) := by decide +kernel
theorem dX6_rider_9 : decode cX6_rider 9 = .ok (.iload_n 2, 1) := by decide +kernel
theorem dX6_rider_10 : decode cX6_rider 10 = .ok (.tableswitch 102 0 9 #[54, 54, 54, 65, 71, 71, 71, 71, 84, 90], 54) := by decide +kernel
theorem dX6_rider_64 : decode cX6_rider 64 = .ok (.aload_n 0, 1) := by decide +kernel
theorem dX6_rider_65 : decode cX6_rider 65 = .ok (.getfield 7, 3) := by decide +kernel
theorem dX6_rider_68 : decode cX6_rider 68 = .ok (.iload_n 1, 1) := by decide +kernel
theorem dX6_rider_69 : decode cX6_rider 69 = .ok (.iload_n 2, 1) := by decide +kernel
theorem dX6_rider_70 : decode cX6_rider 70 = .ok (.invokestatic 35, 3) := by decide +kernel
theorem dX6_rider_73 : decode cX6_rider 73 = .ok (.iaload, 1) := by decide +kernel
theorem dX6_rider_74 : decode cX6_rider 74 = .ok (.ireturn, 1) := by decide +kernel
theorem dX6_rider_75 : decode cX6_rider 75 = .ok (.aload_n 0, 1) := by decide +kernel
theorem dX6_rider_76 : decode cX6_rider 76 = .ok (.iload_n 1, 1) := by decide +kernel
theorem dX6_rider_77 : decode cX6_rider 77 = .ok (.invokevirtual 50, 3) := by decide +kernel
theorem dX6_rider_80 : decode cX6_rider 80 = .ok (.ireturn, 1) := by decide +kernel
theorem dX6_rider_81 : decode cX6_rider 81 = .ok (.aload_n 0, 1) := by decide +kernel
theorem dX6_rider_82 : decode cX6_rider 82 = .ok (.getfield 7, 3) := by decide +kernel
theorem dX6_rider_85 : decode cX6_rider 85 = .ok (.iload_n 1, 1) := by decide +kernel
theorem dX6_rider_86 : decode cX6_rider 86 = .ok (.iload_n 2, 1) := by decide +kernel
theorem dX6_rider_87 : decode cX6_rider 87 = .ok (.iconst 1, 1) := by decide +kernel
theorem dX6_rider_88 : decode cX6_rider 88 = .ok (.isub, 1) := by decide +kernel
theorem dX6_rider_89 : decode cX6_rider 89 = .ok (.invokestatic 35, 3) := by decide +kernel
theorem dX6_rider_92 : decode cX6_rider 92 = .ok (.iaload, 1) := by decide +kernel
theorem dX6_rider_93 : decode cX6_rider 93 = .ok (.ireturn, 1) := by decide +kernel
theorem dX6_rider_94 : decode cX6_rider 94 = .ok (.aload_n 0, 1) := by decide +kernel
theorem dX6_rider_95 : decode cX6_rider 95 = .ok (.iload_n 1, 1) := by decide +kernel
theorem dX6_rider_96 : decode cX6_rider 96 = .ok (.invokevirtual 178, 3) := by decide +kernel
theorem dX6_rider_99 : decode cX6_rider 99 = .ok (.ireturn, 1) := by decide +kernel
theorem dX6_rider_100 : decode cX6_rider 100 = .ok (.aload_n 0, 1) := by decide +kernel
theorem dX6_rider_101 : decode cX6_rider 101 = .ok (.getfield 7, 3) := by decide +kernel
theorem dX6_rider_104 : decode cX6_rider 104 = .ok (.iload_n 1, 1) := by decide +kernel
theorem dX6_rider_105 : decode cX6_rider 105 = .ok (.bipush 7, 2) := by decide +kernel
theorem dX6_rider_107 : decode cX6_rider 107 = .ok (.invokestatic 35, 3) := by decide +kernel
theorem dX6_rider_110 : decode cX6_rider 110 = .ok (.iaload, 1) := by decide +kernel
theorem dX6_rider_111 : decode cX6_rider 111 = .ok (.ireturn, 1) := by decide +kernel
theorem dX6_rider_112 : decode cX6_rider 112 = .ok (.bipush (-2), 2) := by decide +kernel
theorem dX6_rider_114 : decode cX6_rider 114 = .ok (.ireturn, 1) := by decide +kernel
theorem dX6_ridersFor_0 : decode cX6_ridersFor 0 = .ok (.iconst 0, 1) := by decide +kernel
theorem dX6_ridersFor_1 : decode cX6_ridersFor 1 = .ok (.istore_n 3, 1) := by decide +kernel
theorem dX6_ridersFor_2 : decode cX6_ridersFor 2 = .ok (.iconst 0, 1) := by decide +kernel
theorem dX6_ridersFor_3 : decode cX6_ridersFor 3 = .ok (.istore 4, 2) := by decide +kernel
theorem dX6_ridersFor_5 : decode cX6_ridersFor 5 = .ok (.iload 4, 2) := by decide +kernel
theorem dX6_ridersFor_7 : decode cX6_ridersFor 7 = .ok (.aload_n 0, 1) := by decide +kernel
theorem dX6_ridersFor_8 : decode cX6_ridersFor 8 = .ok (.getfield 7, 3) := by decide +kernel
theorem dX6_ridersFor_11 : decode cX6_ridersFor 11 = .ok (.sipush 192, 3) := by decide +kernel
theorem dX6_ridersFor_14 : decode cX6_ridersFor 14 = .ok (.iaload, 1) := by decide +kernel
theorem dX6_ridersFor_15 : decode cX6_ridersFor 15 = .ok (.if_icmp .ge 71, 3) := by decide +kernel
theorem dX6_ridersFor_18 : decode cX6_ridersFor 18 = .ok (.aload_n 0, 1) := by decide +kernel
theorem dX6_ridersFor_19 : decode cX6_ridersFor 19 = .ok (.getfield 7, 3) := by decide +kernel
theorem dX6_ridersFor_22 : decode cX6_ridersFor 22 = .ok (.iload 4, 2) := by decide +kernel
theorem dX6_ridersFor_24 : decode cX6_ridersFor 24 = .ok (.iconst 0, 1) := by decide +kernel
theorem dX6_ridersFor_25 : decode cX6_ridersFor 25 = .ok (.invokestatic 75, 3) := by decide +kernel
theorem dX6_ridersFor_28 : decode cX6_ridersFor 28 = .ok (.iaload, 1) := by decide +kernel
theorem dX6_ridersFor_29 : decode cX6_ridersFor 29 = .ok (.iload_n 1, 1) := by decide +kernel
theorem dX6_ridersFor_30 : decode cX6_ridersFor 30 = .ok (.if_icmp .ne 22, 3) := by decide +kernel
theorem dX6_ridersFor_33 : decode cX6_ridersFor 33 = .ok (.aload_n 0, 1) := by decide +kernel
theorem dX6_ridersFor_34 : decode cX6_ridersFor 34 = .ok (.getfield 7, 3) := by decide +kernel
theorem dX6_ridersFor_37 : decode cX6_ridersFor 37 = .ok (.iload 4, 2) := by decide +kernel
theorem dX6_ridersFor_39 : decode cX6_ridersFor 39 = .ok (.iconst 1, 1) := by decide +kernel
theorem dX6_ridersFor_40 : decode cX6_ridersFor 40 = .ok (.invokestatic 75, 3) := by decide +kernel
theorem dX6_ridersFor_43 : decode cX6_ridersFor 43 = .ok (.iaload, 1) := by decide +kernel
theorem dX6_ridersFor_44 : decode cX6_ridersFor 44 = .ok (.iload_n 2, 1) := by decide +kernel
theorem dX6_ridersFor_45 : decode cX6_ridersFor 45 = .ok (.if_icmp .ne 7, 3) := by decide +kernel
theorem dX6_ridersFor_48 : decode cX6_ridersFor 48 = .ok (.iconst 1, 1) := by decide +kernel
theorem dX6_ridersFor_49 : decode cX6_ridersFor 49 = .ok (.goto 4, 3) := by decide +kernel
