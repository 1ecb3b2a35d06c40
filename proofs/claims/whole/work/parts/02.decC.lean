theorem dX9_acted_37 : decode cX9_acted 37 = .ok (.sipush 256, 3) := by decide +kernel
theorem dX9_acted_40 : decode cX9_acted 40 = .ok (.iadd, 1) := by decide +kernel
theorem dX9_acted_41 : decode cX9_acted 41 = .ok (.iaload, 1) := by decide +kernel
theorem dX9_acted_42 : decode cX9_acted 42 = .ok (.iastore, 1) := by decide +kernel
theorem dX9_acted_43 : decode cX9_acted 43 = .ok (.iinc 2 1, 3) := by decide +kernel
theorem dX9_acted_46 : decode cX9_acted 46 = .ok (.goto (-26), 3) := by decide +kernel
theorem dX9_acted_49 : decode cX9_acted 49 = .ok (.aload_n 0, 1) := by decide +kernel
theorem dX9_acted_50 : decode cX9_acted 50 = .ok (.dup, 1) := by decide +kernel
theorem dX9_acted_51 : decode cX9_acted 51 = .ok (.getfield 28, 3) := by decide +kernel
theorem dX9_acted_54 : decode cX9_acted 54 = .ok (.iconst 1, 1) := by decide +kernel
theorem dX9_acted_55 : decode cX9_acted 55 = .ok (.isub, 1) := by decide +kernel
theorem dX9_acted_56 : decode cX9_acted 56 = .ok (.putfield 28, 3) := by decide +kernel
theorem dX9_acted_59 : decode cX9_acted 59 = .ok (.iconst 0, 1) := by decide +kernel
theorem dX9_acted_60 : decode cX9_acted 60 = .ok (.istore_n 2, 1) := by decide +kernel
theorem dX9_acted_61 : decode cX9_acted 61 = .ok (.iload_n 2, 1) := by decide +kernel
theorem dX9_acted_62 : decode cX9_acted 62 = .ok (.sipush 256, 3) := by decide +kernel
theorem dX9_acted_65 : decode cX9_acted 65 = .ok (.if_icmp .ge 30, 3) := by decide +kernel
theorem dX9_acted_68 : decode cX9_acted 68 = .ok (.aload_n 0, 1) := by decide +kernel
theorem dX9_acted_69 : decode cX9_acted 69 = .ok (.getfield 16, 3) := by decide +kernel
theorem dX9_acted_72 : decode cX9_acted 72 = .ok (.sipush 256, 3) := by decide +kernel
theorem dX9_acted_75 : decode cX9_acted 75 = .ok (.aload_n 0, 1) := by decide +kernel
theorem dX9_acted_76 : decode cX9_acted 76 = .ok (.getfield 28, 3) := by decide +kernel
theorem dX9_acted_79 : decode cX9_acted 79 = .ok (.imul, 1) := by decide +kernel
theorem dX9_acted_80 : decode cX9_acted 80 = .ok (.iload_n 2, 1) := by decide +kernel
theorem dX9_acted_81 : decode cX9_acted 81 = .ok (.iadd, 1) := by decide +kernel
theorem dX9_acted_82 : decode cX9_acted 82 = .ok (.aload_n 0, 1) := by decide +kernel
theorem dX9_acted_83 : decode cX9_acted 83 = .ok (.getfield 13, 3) := by decide +kernel
theorem dX9_acted_86 : decode cX9_acted 86 = .ok (.iload_n 2, 1) := by decide +kernel
theorem dX9_acted_87 : decode cX9_acted 87 = .ok (.iaload, 1) := by decide +kernel
theorem dX9_acted_88 : decode cX9_acted 88 = .ok (.iastore, 1) := by decide +kernel
theorem dX9_acted_89 : decode cX9_acted 89 = .ok (.iinc 2 1, 3) := by decide +kernel
theorem dX9_acted_92 : decode cX9_acted 92 = .ok (.goto (-31), 3) := by decide +kernel
theorem dX9_acted_95 : decode cX9_acted 95 = .ok (.aload_n 0, 1) := by decide +kernel
theorem dX9_acted_96 : decode cX9_acted 96 = .ok (.dup, 1) := by decide +kernel
theorem dX9_acted_97 : decode cX9_acted 97 = .ok (.getfield 28, 3) := by decide +kernel
theorem dX9_acted_100 : decode cX9_acted 100 = .ok (.iconst 1, 1) := by decide +kernel
theorem dX9_acted_101 : decode cX9_acted 101 = .ok (.iadd, 1) := by decide +kernel
theorem dX9_acted_102 : decode cX9_acted 102 = .ok (.putfield 28, 3) := by decide +kernel
theorem dX9_acted_105 : decode cX9_acted 105 = .ok (.iload_n 1, 1) := by decide +kernel
theorem dX9_acted_106 : decode cX9_acted 106 = .ok (.ireturn, 1) := by decide +kernel
theorem dX9_isBlock_0 : decode cX9_isBlock 0 = .ok (.iload_n 0, 1) := by decide +kernel
theorem dX9_isBlock_1 : decode cX9_isBlock 1 = .ok (.iconst 0, 1) := by decide +kernel
theorem dX9_isBlock_2 : decode cX9_isBlock 2 = .ok (.iconst 1, 1) := by decide +kernel
theorem dX9_isBlock_3 : decode cX9_isBlock 3 = .ok (.invokestatic 32, 3) := by decide +kernel
theorem dX9_isBlock_6 : decode cX9_isBlock 6 = .ok (.ireturn, 1) := by decide +kernel
theorem dX9_isOff_0 : decode cX9_isOff 0 = .ok (.aload_n 0, 1) := by decide +kernel
theorem dX9_isOff_1 : decode cX9_isOff 1 = .ok (.getfield 7, 3) := by decide +kernel
theorem dX9_isOff_4 : decode cX9_isOff 4 = .ok (.iconst 1, 1) := by decide +kernel
theorem dX9_isOff_5 : decode cX9_isOff 5 = .ok (.iaload, 1) := by decide +kernel
theorem dX9_isOff_6 : decode cX9_isOff 6 = .ok (.iconst 1, 1) := by decide +kernel
theorem dX9_isOff_7 : decode cX9_isOff 7 = .ok (.if_icmp .ne 7, 3) := by decide +kernel
theorem dX9_isOff_10 : decode cX9_isOff 10 = .ok (.iconst 1, 1) := by decide +kernel
theorem dX9_isOff_11 : decode cX9_isOff 11 = .ok (.goto 4, 3) := by decide +kernel
theorem dX9_isOff_14 : decode cX9_isOff 14 = .ok (.iconst 0, 1) := by decide +kernel
theorem dX9_isOff_15 : decode cX9_isOff 15 = .ok (.ireturn, 1) := by decide +kernel
theorem dX9_isLate_0 : decode cX9_isLate 0 = .ok (.iload_n 0, 1) := by decide +kernel
theorem dX9_isLate_1 : decode cX9_isLate 1 = .ok (.bipush 15, 2) := by decide +kernel
theorem dX9_isLate_3 : decode cX9_isLate 3 = .ok (.if_icmp .eq 13, 3) := by decide +kernel
theorem dX9_isLate_6 : decode cX9_isLate 6 = .ok (.iload_n 0, 1) := by decide +kernel
theorem dX9_isLate_7 : decode cX9_isLate 7 = .ok (.ifCond .le 13, 3) := by decide +kernel
theorem dX9_isLate_10 : decode cX9_isLate 10 = .ok (.iload_n 0, 1) := by decide +kernel
theorem dX9_isLate_11 : decode cX9_isLate 11 = .ok (.iconst 2, 1) := by decide +kernel
theorem dX9_isLate_12 : decode cX9_isLate 12 = .ok (.irem, 1) := by decide +kernel
theorem dX9_isLate_13 : decode cX9_isLate 13 = .ok (.ifCond .ne 7, 3) := by decide +kernel
theorem dX9_isLate_16 : decode cX9_isLate 16 = .ok (.iconst 1, 1) := by decide +kernel
theorem dX9_isLate_17 : decode cX9_isLate 17 = .ok (.goto 4, 3) := by decide +kernel
theorem dX9_isLate_20 : decode cX9_isLate 20 = .ok (.iconst 0, 1) := by decide +kernel
theorem dX9_isLate_21 : decode cX9_isLate 21 = .ok (.ireturn, 1) := by decide +kernel
theorem dX9_lineOf_0 : decode cX9_lineOf 0 = .ok (.iload_n 0, 1) := by decide +kernel
theorem dX9_lineOf_1 : decode cX9_lineOf 1 = .ok (.bipush 15, 2) := by decide +kernel
theorem dX9_lineOf_3 : decode cX9_lineOf 3 = .ok (.if_icmp .ne 8, 3) := by decide +kernel
theorem dX9_lineOf_6 : decode cX9_lineOf 6 = .ok (.bipush 7, 2) := by decide +kernel
theorem dX9_lineOf_8 : decode cX9_lineOf 8 = .ok (.goto 23, 3) := by decide +kernel
theorem dX9_lineOf_11 : decode cX9_lineOf 11 = .ok (.iload_n 0, 1) := by decide +kernel
theorem dX9_lineOf_12 : decode cX9_lineOf 12 = .ok (.invokestatic 36, 3) := by decide +kernel
theorem dX9_lineOf_15 : decode cX9_lineOf 15 = .ok (.ifCond .eq 11, 3) := by decide +kernel
theorem dX9_lineOf_18 : decode cX9_lineOf 18 = .ok (.iload_n 0, 1) := by decide +kernel
theorem dX9_lineOf_19 : decode cX9_lineOf 19 = .ok (.iconst 2, 1) := by decide +kernel
theorem dX9_lineOf_20 : decode cX9_lineOf 20 = .ok (.idiv, 1) := by decide +kernel
theorem dX9_lineOf_21 : decode cX9_lineOf 21 = .ok (.iconst 1, 1) := by decide +kernel
theorem dX9_lineOf_22 : decode cX9_lineOf 22 = .ok (.isub, 1) := by decide +kernel
theorem dX9_lineOf_23 : decode cX9_lineOf 23 = .ok (.goto 8, 3) := by decide +kernel
theorem dX9_lineOf_26 : decode cX9_lineOf 26 = .ok (.iload_n 0, 1) := by decide +kernel
theorem dX9_lineOf_27 : decode cX9_lineOf 27 = .ok (.iconst 1, 1) := by decide +kernel
theorem dX9_lineOf_28 : decode cX9_lineOf 28 = .ok (.iadd, 1) := by decide +kernel
theorem dX9_lineOf_29 : decode cX9_lineOf 29 = .ok (.iconst 2, 1) := by decide +kernel
theorem dX9_lineOf_30 : decode cX9_lineOf 30 = .ok (.idiv, 1) := by decide +kernel
theorem dX9_lineOf_31 : decode cX9_lineOf 31 = .ok (.ireturn, 1) := by decide +kernel
theorem dX9_earlyOf_0 : decode cX9_earlyOf 0 = .ok (.iload_n 0, 1) := by decide +kernel
theorem dX9_earlyOf_1 : decode cX9_earlyOf 1 = .ok (.ifCond .ne 7, 3) := by decide +kernel
theorem dX9_earlyOf_4 : decode cX9_earlyOf 4 = .ok (.iconst 0, 1) := by decide +kernel
theorem dX9_earlyOf_5 : decode cX9_earlyOf 5 = .ok (.goto 8, 3) := by decide +kernel
theorem dX9_earlyOf_8 : decode cX9_earlyOf 8 = .ok (.iconst 2, 1) := by decide +kernel
theorem dX9_earlyOf_9 : decode cX9_earlyOf 9 = .ok (.iload_n 0, 1) := by decide +kernel
theorem dX9_earlyOf_10 : decode cX9_earlyOf 10 = .ok (.imul, 1) := by decide +kernel
theorem dX9_earlyOf_11 : decode cX9_earlyOf 11 = .ok (.iconst 1, 1) := by decide +kernel
theorem dX9_earlyOf_12 : decode cX9_earlyOf 12 = .ok (.isub, 1) := by decide +kernel
theorem dX9_earlyOf_13 : decode cX9_earlyOf 13 = .ok (.ireturn, 1) := by decide +kernel
theorem dX9_pageAt_0 : decode cX9_pageAt 0 = .ok (.bipush 24, 2) := by decide +kernel
theorem dX9_pageAt_2 : decode cX9_pageAt 2 = .ok (.iconst 4, 1) := by decide +kernel
theorem dX9_pageAt_3 : decode cX9_pageAt 3 = .ok (.bipush 16, 2) := by decide +kernel
theorem dX9_pageAt_5 : decode cX9_pageAt 5 = .ok (.iload_n 1, 1) := by decide +kernel
theorem dX9_pageAt_6 : decode cX9_pageAt 6 = .ok (.imul, 1) := by decide +kernel
theorem dX9_pageAt_7 : decode cX9_pageAt 7 = .ok (.iload_n 2, 1) := by decide +kernel
theorem dX9_pageAt_8 : decode cX9_pageAt 8 = .ok (.iadd, 1) := by decide +kernel
theorem dX9_pageAt_9 : decode cX9_pageAt 9 = .ok (.imul, 1) := by decide +kernel
theorem dX9_pageAt_10 : decode cX9_pageAt 10 = .ok (.iadd, 1) := by decide +kernel
theorem dX9_pageAt_11 : decode cX9_pageAt 11 = .ok (.ireturn, 1) := by decide +kernel
theorem dX9_backupAt_0 : decode cX9_backupAt 0 = .ok (.sipush 152, 3) := by decide +kernel
theorem dX9_backupAt_3 : decode cX9_backupAt 3 = .ok (.iconst 4, 1) := by decide +kernel
theorem dX9_backupAt_4 : decode cX9_backupAt 4 = .ok (.bipush 8, 2) := by decide +kernel
theorem dX9_backupAt_6 : decode cX9_backupAt 6 = .ok (.iload_n 1, 1) := by decide +kernel
theorem dX9_backupAt_7 : decode cX9_backupAt 7 = .ok (.imul, 1) := by decide +kernel
theorem dX9_backupAt_8 : decode cX9_backupAt 8 = .ok (.iload_n 2, 1) := by decide +kernel
theorem dX9_backupAt_9 : decode cX9_backupAt 9 = .ok (.iadd, 1) := by decide +kernel
theorem dX9_backupAt_10 : decode cX9_backupAt 10 = .ok (.imul, 1) := by decide +kernel
theorem dX9_backupAt_11 : decode cX9_backupAt 11 = .ok (.iadd, 1) := by decide +kernel
theorem dX9_backupAt_12 : decode cX9_backupAt 12 = .ok (.ireturn, 1) := by decide +kernel
theorem dX9_next_0 : decode cX9_next 0 = .ok (.iconst 0, 1) := by decide +kernel
theorem dX9_next_1 : decode cX9_next 1 = .ok (.istore_n 1, 1) := by decide +kernel
theorem dX9_next_2 : decode cX9_next 2 = .ok (.iload_n 1, 1) := by decide +kernel
theorem dX9_next_3 : decode cX9_next 3 = .ok (.bipush 16, 2) := by decide +kernel
theorem dX9_next_5 : decode cX9_next 5 = .ok (.if_icmp .ge 28, 3) := by decide +kernel
theorem dX9_next_8 : decode cX9_next 8 = .ok (.aload_n 0, 1) := by decide +kernel
theorem dX9_next_9 : decode cX9_next 9 = .ok (.getfield 7, 3) := by decide +kernel
theorem dX9_next_12 : decode cX9_next 12 = .ok (.aload_n 0, 1) := by decide +kernel
theorem dX9_next_13 : decode cX9_next 13 = .ok (.aload_n 0, 1) := by decide +kernel
theorem dX9_next_14 : decode cX9_next 14 = .ok (.getfield 7, 3) := by decide +kernel
theorem dX9_next_17 : decode cX9_next 17 = .ok (.iconst 2, 1) := by decide +kernel
theorem dX9_next_18 : decode cX9_next 18 = .ok (.iaload, 1) := by decide +kernel
theorem dX9_next_19 : decode cX9_next 19 = .ok (.iload_n 1, 1) := by decide +kernel
theorem dX9_next_20 : decode cX9_next 20 = .ok (.invokevirtual 40, 3) := by decide +kernel
theorem dX9_next_23 : decode cX9_next 23 = .ok (.iaload, 1) := by decide +kernel
theorem dX9_next_24 : decode cX9_next 24 = .ok (.ifCond .eq 9, 3) := by decide +kernel
theorem dX9_next_27 : decode cX9_next 27 = .ok (.iinc 1 1, 3) := by decide +kernel
theorem dX9_next_30 : decode cX9_next 30 = .ok (.goto (-28), 3) := by decide +kernel
theorem dX9_next_33 : decode cX9_next 33 = .ok (.iload_n 1, 1) := by decide +kernel
theorem dX9_next_34 : decode cX9_next 34 = .ok (.ireturn, 1) := by decide +kernel
theorem dX9_isBlank_0 : decode cX9_isBlank 0 = .ok (.iconst 1, 1) := by decide +kernel
theorem dX9_isBlank_1 : decode cX9_isBlank 1 = .ok (.istore_n 2, 1) := by decide +kernel
theorem dX9_isBlank_2 : decode cX9_isBlank 2 = .ok (.iconst 0, 1) := by decide +kernel
theorem dX9_isBlank_3 : decode cX9_isBlank 3 = .ok (.istore_n 3, 1) := by decide +kernel
theorem dX9_isBlank_4 : decode cX9_isBlank 4 = .ok (.iload_n 3, 1) := by decide +kernel
theorem dX9_isBlank_5 : decode cX9_isBlank 5 = .ok (.bipush 16, 2) := by decide +kernel
theorem dX9_isBlank_7 : decode cX9_isBlank 7 = .ok (.if_icmp .ge 33, 3) := by decide +kernel
theorem dX9_isBlank_10 : decode cX9_isBlank 10 = .ok (.iload_n 2, 1) := by decide +kernel
theorem dX9_isBlank_11 : decode cX9_isBlank 11 = .ok (.ifCond .eq 21, 3) := by decide +kernel
theorem dX9_isBlank_14 : decode cX9_isBlank 14 = .ok (.aload_n 0, 1) := by decide +kernel
theorem dX9_isBlank_15 : decode cX9_isBlank 15 = .ok (.getfield 7, 3) := by decide +kernel
theorem dX9_isBlank_18 : decode cX9_isBlank 18 = .ok (.aload_n 0, 1) := by decide +kernel
theorem dX9_isBlank_19 : decode cX9_isBlank 19 = .ok (.iload_n 1, 1) := by decide +kernel
theorem dX9_isBlank_20 : decode cX9_isBlank 20 = .ok (.iload_n 3, 1) := by decide +kernel
theorem dX9_isBlank_21 : decode cX9_isBlank 21 = .ok (.invokevirtual 40, 3) := by decide +kernel
theorem dX9_isBlank_24 : decode cX9_isBlank 24 = .ok (.iaload, 1) := by decide +kernel
theorem dX9_isBlank_25 : decode cX9_isBlank 25 = .ok (.ifCond .ne 7, 3) := by decide +kernel
theorem dX9_isBlank_28 : decode cX9_isBlank 28 = .ok (.iconst 1, 1) := by decide +kernel
theorem dX9_isBlank_29 : decode cX9_isBlank 29 = .ok (.goto 4, 3) := by decide +kernel
theorem dX9_isBlank_32 : decode cX9_isBlank 32 = .ok (.iconst 0, 1) := by decide +kernel
theorem dX9_isBlank_33 : decode cX9_isBlank 33 = .ok (.istore_n 2, 1) := by decide +kernel
theorem dX9_isBlank_34 : decode cX9_isBlank 34 = .ok (.iinc 3 1, 3) := by decide +kernel
theorem dX9_isBlank_37 : decode cX9_isBlank 37 = .ok (.goto (-33), 3) := by decide +kernel
theorem dX9_isBlank_40 : decode cX9_isBlank 40 = .ok (.iload_n 2, 1) := by decide +kernel
theorem dX9_isBlank_41 : decode cX9_isBlank 41 = .ok (.ireturn, 1) := by decide +kernel
theorem dX9_placeOfKey_0 : decode cX9_placeOfKey 0 = .ok (.iconst (-1), 1) := by decide +kernel
theorem dX9_placeOfKey_1 : decode cX9_placeOfKey 1 = .ok (.istore_n 2, 1) := by decide +kernel
theorem dX9_placeOfKey_2 : decode cX9_placeOfKey 2 = .ok (.iconst 0, 1) := by decide +kernel
theorem dX9_placeOfKey_3 : decode cX9_placeOfKey 3 = .ok (.istore_n 3, 1) := by decide +kernel
theorem dX9_placeOfKey_4 : decode cX9_placeOfKey 4 = .ok (.iconst 0, 1) := by decide +kernel
theorem dX9_placeOfKey_5 : decode cX9_placeOfKey 5 = .ok (.istore 4, 2) := by decide +kernel
theorem dX9_placeOfKey_7 : decode cX9_placeOfKey 7 = .ok (.iload 4, 2) := by decide +kernel
theorem dX9_placeOfKey_9 : decode cX9_placeOfKey 9 = .ok (.bipush 48, 2) := by decide +kernel
theorem dX9_placeOfKey_11 : decode cX9_placeOfKey 11 = .ok (.if_icmp .ge 92, 3) := by decide +kernel
theorem dX9_placeOfKey_14 : decode cX9_placeOfKey 14 = .ok (.aload_n 0, 1) := by decide +kernel
theorem dX9_placeOfKey_15 : decode cX9_placeOfKey 15 = .ok (.iload 4, 2) := by decide +kernel
theorem dX9_placeOfKey_17 : decode cX9_placeOfKey 17 = .ok (.invokevirtual 44, 3) := by decide +kernel
theorem dX9_placeOfKey_20 : decode cX9_placeOfKey 20 = .ok (.istore 5, 2) := by decide +kernel
theorem dX9_placeOfKey_22 : decode cX9_placeOfKey 22 = .ok (.aload_n 0, 1) := by decide +kernel
theorem dX9_placeOfKey_23 : decode cX9_placeOfKey 23 = .ok (.getfield 7, 3) := by decide +kernel
theorem dX9_placeOfKey_26 : decode cX9_placeOfKey 26 = .ok (.iload 5, 2) := by decide +kernel
theorem dX9_placeOfKey_28 : decode cX9_placeOfKey 28 = .ok (.iaload, 1) := by decide +kernel
theorem dX9_placeOfKey_29 : decode cX9_placeOfKey 29 = .ok (.iconst 2, 1) := by decide +kernel
theorem dX9_placeOfKey_30 : decode cX9_placeOfKey 30 = .ok (.if_icmp .ne 33, 3) := by decide +kernel
theorem dX9_placeOfKey_33 : decode cX9_placeOfKey 33 = .ok (.aload_n 0, 1) := by decide +kernel
theorem dX9_placeOfKey_34 : decode cX9_placeOfKey 34 = .ok (.getfield 7, 3) := by decide +kernel
theorem dX9_placeOfKey_37 : decode cX9_placeOfKey 37 = .ok (.iload 5, 2) := by decide +kernel
theorem dX9_placeOfKey_39 : decode cX9_placeOfKey 39 = .ok (.iconst 1, 1) := by decide +kernel
theorem dX9_placeOfKey_40 : decode cX9_placeOfKey 40 = .ok (.iadd, 1) := by decide +kernel
theorem dX9_placeOfKey_41 : decode cX9_placeOfKey 41 = .ok (.iaload, 1) := by decide +kernel
theorem dX9_placeOfKey_42 : decode cX9_placeOfKey 42 = .ok (.iload_n 1, 1) := by decide +kernel
theorem dX9_placeOfKey_43 : decode cX9_placeOfKey 43 = .ok (.if_icmp .ne 20, 3) := by decide +kernel
theorem dX9_placeOfKey_46 : decode cX9_placeOfKey 46 = .ok (.aload_n 0, 1) := by decide +kernel
theorem dX9_placeOfKey_47 : decode cX9_placeOfKey 47 = .ok (.getfield 7, 3) := by decide +kernel
theorem dX9_placeOfKey_50 : decode cX9_placeOfKey 50 = .ok (.iload 5, 2) := by decide +kernel
theorem dX9_placeOfKey_52 : decode cX9_placeOfKey 52 = .ok (.iconst 3, 1) := by decide +kernel
theorem dX9_placeOfKey_53 : decode cX9_placeOfKey 53 = .ok (.iadd, 1) := by decide +kernel
theorem dX9_placeOfKey_54 : decode cX9_placeOfKey 54 = .ok (.iaload, 1) := by decide +kernel
theorem dX9_placeOfKey_55 : decode cX9_placeOfKey 55 = .ok (.iload_n 3, 1) := by decide +kernel
theorem dX9_placeOfKey_56 : decode cX9_placeOfKey 56 = .ok (.if_icmp .le 7, 3) := by decide +kernel
theorem dX9_placeOfKey_59 : decode cX9_placeOfKey 59 = .ok (.iconst 1, 1) := by decide +kernel
theorem dX9_placeOfKey_60 : decode cX9_placeOfKey 60 = .ok (.goto 4, 3) := by decide +kernel
theorem dX9_placeOfKey_63 : decode cX9_placeOfKey 63 = .ok (.iconst 0, 1) := by decide +kernel
theorem dX9_placeOfKey_64 : decode cX9_placeOfKey 64 = .ok (.istore 6, 2) := by decide +kernel
theorem dX9_placeOfKey_66 : decode cX9_placeOfKey 66 = .ok (.iload 6, 2) := by decide +kernel
theorem dX9_placeOfKey_68 : decode cX9_placeOfKey 68 = .ok (.ifCond .eq 8, 3) := by decide +kernel
theorem dX9_placeOfKey_71 : decode cX9_placeOfKey 71 = .ok (.iload 4, 2) := by decide +kernel
theorem dX9_placeOfKey_73 : decode cX9_placeOfKey 73 = .ok (.goto 4, 3) := by decide +kernel
theorem dX9_placeOfKey_76 : decode cX9_placeOfKey 76 = .ok (.iload_n 2, 1) := by decide +kernel
theorem dX9_placeOfKey_77 : decode cX9_placeOfKey 77 = .ok (.istore_n 2, 1) := by decide +kernel
theorem dX9_placeOfKey_78 : decode cX9_placeOfKey 78 = .ok (.iload 6, 2) := by decide +kernel
theorem dX9_placeOfKey_80 : decode cX9_placeOfKey 80 = .ok (.ifCond .eq 15, 3) := by decide +kernel
theorem dX9_placeOfKey_83 : decode cX9_placeOfKey 83 = .ok (.aload_n 0, 1) := by decide +kernel
theorem dX9_placeOfKey_84 : decode cX9_placeOfKey 84 = .ok (.getfield 7, 3) := by decide +kernel
theorem dX9_placeOfKey_87 : decode cX9_placeOfKey 87 = .ok (.iload 5, 2) := by decide +kernel
theorem dX9_placeOfKey_89 : decode cX9_placeOfKey 89 = .ok (.iconst 3, 1) := by decide +kernel
theorem dX9_placeOfKey_90 : decode cX9_placeOfKey 90 = .ok (.iadd, 1) := by decide +kernel
theorem dX9_placeOfKey_91 : decode cX9_placeOfKey 91 = .ok (.iaload, 1) := by decide +kernel
theorem dX9_placeOfKey_92 : decode cX9_placeOfKey 92 = .ok (.goto 4, 3) := by decide +kernel
theorem dX9_placeOfKey_95 : decode cX9_placeOfKey 95 = .ok (.iload_n 3, 1) := by decide +kernel
theorem dX9_placeOfKey_96 : decode cX9_placeOfKey 96 = .ok (.istore_n 3, 1) := by decide +kernel
theorem dX9_placeOfKey_97 : decode cX9_placeOfKey 97 = .ok (.iinc 4 1, 3) := by decide +kernel
theorem dX9_placeOfKey_100 : decode cX9_placeOfKey 100 = .ok (.goto (-93), 3) := by decide +kernel
theorem dX9_placeOfKey_103 : decode cX9_placeOfKey 103 = .ok (.iload_n 2, 1) := by decide +kernel
theorem dX9_placeOfKey_104 : decode cX9_placeOfKey 104 = .ok (.ireturn, 1) := by decide +kernel
theorem dX9_atPlace_0 : decode cX9_atPlace 0 = .ok (.iload_n 1, 1) := by decide +kernel
theorem dX9_atPlace_1 : decode cX9_atPlace 1 = .ok (.bipush 24, 2) := by decide +kernel
theorem dX9_atPlace_3 : decode cX9_atPlace 3 = .ok (.idiv, 1) := by decide +kernel
theorem dX9_atPlace_4 : decode cX9_atPlace 4 = .ok (.istore_n 2, 1) := by decide +kernel
theorem dX9_atPlace_5 : decode cX9_atPlace 5 = .ok (.iload_n 1, 1) := by decide +kernel
theorem dX9_atPlace_6 : decode cX9_atPlace 6 = .ok (.bipush 24, 2) := by decide +kernel
theorem dX9_atPlace_8 : decode cX9_atPlace 8 = .ok (.irem, 1) := by decide +kernel
theorem dX9_atPlace_9 : decode cX9_atPlace 9 = .ok (.bipush 16, 2) := by decide +kernel
theorem dX9_atPlace_11 : decode cX9_atPlace 11 = .ok (.if_icmp .ge 15, 3) := by decide +kernel
theorem dX9_atPlace_14 : decode cX9_atPlace 14 = .ok (.aload_n 0, 1) := by decide +kernel
theorem dX9_atPlace_15 : decode cX9_atPlace 15 = .ok (.iload_n 2, 1) := by decide +kernel
theorem dX9_atPlace_16 : decode cX9_atPlace 16 = .ok (.iload_n 1, 1) := by decide +kernel
theorem dX9_atPlace_17 : decode cX9_atPlace 17 = .ok (.bipush 24, 2) := by decide +kernel
theorem dX9_atPlace_19 : decode cX9_atPlace 19 = .ok (.irem, 1) := by decide +kernel
theorem dX9_atPlace_20 : decode cX9_atPlace 20 = .ok (.invokevirtual 40, 3) := by decide +kernel
theorem dX9_atPlace_23 : decode cX9_atPlace 23 = .ok (.goto 15, 3) := by decide +kernel
theorem dX9_atPlace_26 : decode cX9_atPlace 26 = .ok (.aload_n 0, 1) := by decide +kernel
theorem dX9_atPlace_27 : decode cX9_atPlace 27 = .ok (.iload_n 2, 1) := by decide +kernel
theorem dX9_atPlace_28 : decode cX9_atPlace 28 = .ok (.iload_n 1, 1) := by decide +kernel
theorem dX9_atPlace_29 : decode cX9_atPlace 29 = .ok (.bipush 24, 2) := by decide +kernel
theorem dX9_atPlace_31 : decode cX9_atPlace 31 = .ok (.irem, 1) := by decide +kernel
theorem dX9_atPlace_32 : decode cX9_atPlace 32 = .ok (.bipush 16, 2) := by decide +kernel
theorem dX9_atPlace_34 : decode cX9_atPlace 34 = .ok (.isub, 1) := by decide +kernel
theorem dX9_atPlace_35 : decode cX9_atPlace 35 = .ok (.invokevirtual 48, 3) := by decide +kernel
theorem dX9_atPlace_38 : decode cX9_atPlace 38 = .ok (.ireturn, 1) := by decide +kernel
theorem dX9_stampOf_0 : decode cX9_stampOf 0 = .ok (.aload_n 0, 1) := by decide +kernel
theorem dX9_stampOf_1 : decode cX9_stampOf 1 = .ok (.iload_n 1, 1) := by decide +kernel
theorem dX9_stampOf_2 : decode cX9_stampOf 2 = .ok (.invokevirtual 51, 3) := by decide +kernel
theorem dX9_stampOf_5 : decode cX9_stampOf 5 = .ok (.istore_n 2, 1) := by decide +kernel
theorem dX9_stampOf_6 : decode cX9_stampOf 6 = .ok (.iload_n 2, 1) := by decide +kernel
theorem dX9_stampOf_7 : decode cX9_stampOf 7 = .ok (.ifCond .ge 7, 3) := by decide +kernel
theorem dX9_stampOf_10 : decode cX9_stampOf 10 = .ok (.iconst 0, 1) := by decide +kernel
theorem dX9_stampOf_11 : decode cX9_stampOf 11 = .ok (.goto 15, 3) := by decide +kernel
theorem dX9_stampOf_14 : decode cX9_stampOf 14 = .ok (.aload_n 0, 1) := by decide +kernel
theorem dX9_stampOf_15 : decode cX9_stampOf 15 = .ok (.getfield 7, 3) := by decide +kernel
theorem dX9_stampOf_18 : decode cX9_stampOf 18 = .ok (.aload_n 0, 1) := by decide +kernel
theorem dX9_stampOf_19 : decode cX9_stampOf 19 = .ok (.iload_n 2, 1) := by decide +kernel
theorem dX9_stampOf_20 : decode cX9_stampOf 20 = .ok (.invokevirtual 44, 3) := by decide +kernel
theorem dX9_stampOf_23 : decode cX9_stampOf 23 = .ok (.iconst 3, 1) := by decide +kernel
theorem dX9_stampOf_24 : decode cX9_stampOf 24 = .ok (.iadd, 1) := by decide +kernel
theorem dX9_stampOf_25 : decode cX9_stampOf 25 = .ok (.iaload, 1) := by decide +kernel
theorem dX9_stampOf_26 : decode cX9_stampOf 26 = .ok (.ireturn, 1) := by decide +kernel
theorem dX9_comes_0 : decode cX9_comes 0 = .ok (.aload_n 0, 1) := by decide +kernel
theorem dX9_comes_1 : decode cX9_comes 1 = .ok (.getfield 7, 3) := by decide +kernel
theorem dX9_comes_4 : decode cX9_comes 4 = .ok (.bipush 11, 2) := by decide +kernel
theorem dX9_comes_6 : decode cX9_comes 6 = .ok (.iaload, 1) := by decide +kernel
theorem dX9_comes_7 : decode cX9_comes 7 = .ok (.istore 5, 2) := by decide +kernel
theorem dX9_comes_9 : decode cX9_comes 9 = .ok (.iload 5, 2) := by decide +kernel
theorem dX9_comes_11 : decode cX9_comes 11 = .ok (.ifCond .le 79, 3) := by decide +kernel
theorem dX9_comes_14 : decode cX9_comes 14 = .ok (.aload_n 0, 1) := by decide +kernel
theorem dX9_comes_15 : decode cX9_comes 15 = .ok (.getfield 7, 3) := by decide +kernel
theorem dX9_comes_18 : decode cX9_comes 18 = .ok (.sipush 216, 3) := by decide +kernel
theorem dX9_comes_21 : decode cX9_comes 21 = .ok (.iconst 4, 1) := by decide +kernel
theorem dX9_comes_22 : decode cX9_comes 22 = .ok (.iload 5, 2) := by decide +kernel
theorem dX9_comes_24 : decode cX9_comes 24 = .ok (.iconst 1, 1) := by decide +kernel
theorem dX9_comes_25 : decode cX9_comes 25 = .ok (.isub, 1) := by decide +kernel
theorem dX9_comes_26 : decode cX9_comes 26 = .ok (.imul, 1) := by decide +kernel
theorem dX9_comes_27 : decode cX9_comes 27 = .ok (.iadd, 1) := by decide +kernel
theorem dX9_comes_28 : decode cX9_comes 28 = .ok (.iconst 2, 1) := by decide +kernel
theorem dX9_comes_29 : decode cX9_comes 29 = .ok (.iadd, 1) := by decide +kernel
theorem dX9_comes_30 : decode cX9_comes 30 = .ok (.iaload, 1) := by decide +kernel
theorem dX9_comes_31 : decode cX9_comes 31 = .ok (.iload_n 3, 1) := by decide +kernel
theorem dX9_comes_32 : decode cX9_comes 32 = .ok (.if_icmp .le 58, 3) := by decide +kernel
theorem dX9_comes_35 : decode cX9_comes 35 = .ok (.iconst 0, 1) := by decide +kernel
theorem dX9_comes_36 : decode cX9_comes 36 = .ok (.istore 6, 2) := by decide +kernel
theorem dX9_comes_38 : decode cX9_comes 38 = .ok (.iload 6, 2) := by decide +kernel
theorem dX9_comes_40 : decode cX9_comes 40 = .ok (.iconst 4, 1) := by decide +kernel
theorem dX9_comes_41 : decode cX9_comes 41 = .ok (.if_icmp .ge 43, 3) := by decide +kernel
theorem dX9_comes_44 : decode cX9_comes 44 = .ok (.aload_n 0, 1) := by decide +kernel
theorem dX9_comes_45 : decode cX9_comes 45 = .ok (.getfield 7, 3) := by decide +kernel
theorem dX9_comes_48 : decode cX9_comes 48 = .ok (.sipush 216, 3) := by decide +kernel
theorem dX9_comes_51 : decode cX9_comes 51 = .ok (.iconst 4, 1) := by decide +kernel
theorem dX9_comes_52 : decode cX9_comes 52 = .ok (.iload 5, 2) := by decide +kernel
theorem dX9_comes_54 : decode cX9_comes 54 = .ok (.imul, 1) := by decide +kernel
theorem dX9_comes_55 : decode cX9_comes 55 = .ok (.iadd, 1) := by decide +kernel
theorem dX9_comes_56 : decode cX9_comes 56 = .ok (.iload 6, 2) := by decide +kernel
theorem dX9_comes_58 : decode cX9_comes 58 = .ok (.iadd, 1) := by decide +kernel
theorem dX9_comes_59 : decode cX9_comes 59 = .ok (.aload_n 0, 1) := by decide +kernel
theorem dX9_comes_60 : decode cX9_comes 60 = .ok (.getfield 7, 3) := by decide +kernel
theorem dX9_comes_63 : decode cX9_comes 63 = .ok (.sipush 216, 3) := by decide +kernel
theorem dX9_comes_66 : decode cX9_comes 66 = .ok (.iconst 4, 1) := by decide +kernel
theorem dX9_comes_67 : decode cX9_comes 67 = .ok (.iload 5, 2) := by decide +kernel
theorem dX9_comes_69 : decode cX9_comes 69 = .ok (.iconst 1, 1) := by decide +kernel
theorem dX9_comes_70 : decode cX9_comes 70 = .ok (.isub, 1) := by decide +kernel
theorem dX9_comes_71 : decode cX9_comes 71 = .ok (.imul, 1) := by decide +kernel
theorem dX9_comes_72 : decode cX9_comes 72 = .ok (.iadd, 1) := by decide +kernel
theorem dX9_comes_73 : decode cX9_comes 73 = .ok (.iload 6, 2) := by decide +kernel
theorem dX9_comes_75 : decode cX9_comes 75 = .ok (.iadd, 1) := by decide +kernel
theorem dX9_comes_76 : decode cX9_comes 76 = .ok (.iaload, 1) := by decide +kernel
theorem dX9_comes_77 : decode cX9_comes 77 = .ok (.iastore, 1) := by decide +kernel
theorem dX9_comes_78 : decode cX9_comes 78 = .ok (.iinc 6 1, 3) := by decide +kernel
theorem dX9_comes_81 : decode cX9_comes 81 = .ok (.goto (-43), 3) := by decide +kernel
theorem dX9_comes_84 : decode cX9_comes 84 = .ok (.iinc 5 (-1), 3) := by decide +kernel
theorem dX9_comes_87 : decode cX9_comes 87 = .ok (.goto (-78), 3) := by decide +kernel
theorem dX9_comes_90 : decode cX9_comes 90 = .ok (.aload_n 0, 1) := by decide +kernel
theorem dX9_comes_91 : decode cX9_comes 91 = .ok (.getfield 7, 3) := by decide +kernel
theorem dX9_comes_94 : decode cX9_comes 94 = .ok (.sipush 216, 3) := by decide +kernel
theorem dX9_comes_97 : decode cX9_comes 97 = .ok (.iconst 4, 1) := by decide +kernel
theorem dX9_comes_98 : decode cX9_comes 98 = .ok (.iload 5, 2) := by decide +kernel
theorem dX9_comes_100 : decode cX9_comes 100 = .ok (.imul, 1) := by decide +kernel
theorem dX9_comes_101 : decode cX9_comes 101 = .ok (.iadd, 1) := by decide +kernel
theorem dX9_comes_102 : decode cX9_comes 102 = .ok (.iload_n 1, 1) := by decide +kernel
theorem dX9_comes_103 : decode cX9_comes 103 = .ok (.iastore, 1) := by decide +kernel
theorem dX9_comes_104 : decode cX9_comes 104 = .ok (.aload_n 0, 1) := by decide +kernel
theorem dX9_comes_105 : decode cX9_comes 105 = .ok (.getfield 7, 3) := by decide +kernel
theorem dX9_comes_108 : decode cX9_comes 108 = .ok (.sipush 216, 3) := by decide +kernel
theorem dX9_comes_111 : decode cX9_comes 111 = .ok (.iconst 4, 1) := by decide +kernel
theorem dX9_comes_112 : decode cX9_comes 112 = .ok (.iload 5, 2) := by decide +kernel
theorem dX9_comes_114 : decode cX9_comes 114 = .ok (.imul, 1) := by decide +kernel
theorem dX9_comes_115 : decode cX9_comes 115 = .ok (.iadd, 1) := by decide +kernel
theorem dX9_comes_116 : decode cX9_comes 116 = .ok (.iconst 1, 1) := by decide +kernel
theorem dX9_comes_117 : decode cX9_comes 117 = .ok (.iadd, 1) := by decide +kernel
theorem dX9_comes_118 : decode cX9_comes 118 = .ok (.iload_n 2, 1) := by decide +kernel
theorem dX9_comes_119 : decode cX9_comes 119 = .ok (.iastore, 1) := by decide +kernel
theorem dX9_comes_120 : decode cX9_comes 120 = .ok (.aload_n 0, 1) := by decide +kernel
theorem dX9_comes_121 : decode cX9_comes 121 = .ok (.getfield 7, 3) := by decide +kernel
theorem dX9_comes_124 : decode cX9_comes 124 = .ok (.sipush 216, 3) := by decide +kernel
theorem dX9_comes_127 : decode cX9_comes 127 = .ok (.iconst 4, 1) := by decide +kernel
theorem dX9_comes_128 : decode cX9_comes 128 = .ok (.iload 5, 2) := by decide +kernel
theorem dX9_comes_130 : decode cX9_comes 130 = .ok (.imul, 1) := by decide +kernel
theorem dX9_comes_131 : decode cX9_comes 131 = .ok (.iadd, 1) := by decide +kernel
theorem dX9_comes_132 : decode cX9_comes 132 = .ok (.iconst 2, 1) := by decide +kernel
theorem dX9_comes_133 : decode cX9_comes 133 = .ok (.iadd, 1) := by decide +kernel
theorem dX9_comes_134 : decode cX9_comes 134 = .ok (.iload_n 3, 1) := by decide +kernel
theorem dX9_comes_135 : decode cX9_comes 135 = .ok (.iastore, 1) := by decide +kernel
theorem dX9_comes_136 : decode cX9_comes 136 = .ok (.aload_n 0, 1) := by decide +kernel
theorem dX9_comes_137 : decode cX9_comes 137 = .ok (.getfield 7, 3) := by decide +kernel
theorem dX9_comes_140 : decode cX9_comes 140 = .ok (.sipush 216, 3) := by decide +kernel
theorem dX9_comes_143 : decode cX9_comes 143 = .ok (.iconst 4, 1) := by decide +kernel
theorem dX9_comes_144 : decode cX9_comes 144 = .ok (.iload 5, 2) := by decide +kernel
theorem dX9_comes_146 : decode cX9_comes 146 = .ok (.imul, 1) := by decide +kernel
theorem dX9_comes_147 : decode cX9_comes 147 = .ok (.iadd, 1) := by decide +kernel
theorem dX9_comes_148 : decode cX9_comes 148 = .ok (.iconst 3, 1) := by decide +kernel
theorem dX9_comes_149 : decode cX9_comes 149 = .ok (.iadd, 1) := by decide +kernel
theorem dX9_comes_150 : decode cX9_comes 150 = .ok (.iload 4, 2) := by decide +kernel
theorem dX9_comes_152 : decode cX9_comes 152 = .ok (.iastore, 1) := by decide +kernel
theorem dX9_comes_153 : decode cX9_comes 153 = .ok (.aload_n 0, 1) := by decide +kernel
theorem dX9_comes_154 : decode cX9_comes 154 = .ok (.getfield 7, 3) := by decide +kernel
theorem dX9_comes_157 : decode cX9_comes 157 = .ok (.bipush 11, 2) := by decide +kernel
theorem dX9_comes_159 : decode cX9_comes 159 = .ok (.dup2, 1) := by decide +kernel
theorem dX9_comes_160 : decode cX9_comes 160 = .ok (.iaload, 1) := by decide +kernel
theorem dX9_comes_161 : decode cX9_comes 161 = .ok (.iconst 1, 1) := by decide +kernel
theorem dX9_comes_162 : decode cX9_comes 162 = .ok (.iadd, 1) := by decide +kernel
theorem dX9_comes_163 : decode cX9_comes 163 = .ok (.iastore, 1) := by decide +kernel
theorem dX9_comes_164 : decode cX9_comes 164 = .ok (.return_, 1) := by decide +kernel
theorem dX9_copies_0 : decode cX9_copies 0 = .ok (.aload_n 0, 1) := by decide +kernel
theorem dX9_copies_1 : decode cX9_copies 1 = .ok (.iload_n 1, 1) := by decide +kernel
theorem dX9_copies_2 : decode cX9_copies 2 = .ok (.invokevirtual 44, 3) := by decide +kernel
theorem dX9_copies_5 : decode cX9_copies 5 = .ok (.istore_n 3, 1) := by decide +kernel
theorem dX9_copies_6 : decode cX9_copies 6 = .ok (.aload_n 0, 1) := by decide +kernel
theorem dX9_copies_7 : decode cX9_copies 7 = .ok (.aload_n 0, 1) := by decide +kernel
theorem dX9_copies_8 : decode cX9_copies 8 = .ok (.getfield 7, 3) := by decide +kernel
theorem dX9_copies_11 : decode cX9_copies 11 = .ok (.iload_n 3, 1) := by decide +kernel
theorem dX9_copies_12 : decode cX9_copies 12 = .ok (.iconst 1, 1) := by decide +kernel
theorem dX9_copies_13 : decode cX9_copies 13 = .ok (.iadd, 1) := by decide +kernel
theorem dX9_copies_14 : decode cX9_copies 14 = .ok (.iaload, 1) := by decide +kernel
theorem dX9_copies_15 : decode cX9_copies 15 = .ok (.aload_n 0, 1) := by decide +kernel
theorem dX9_copies_16 : decode cX9_copies 16 = .ok (.getfield 7, 3) := by decide +kernel
theorem dX9_copies_19 : decode cX9_copies 19 = .ok (.iload_n 3, 1) := by decide +kernel
theorem dX9_copies_20 : decode cX9_copies 20 = .ok (.iconst 2, 1) := by decide +kernel
theorem dX9_copies_21 : decode cX9_copies 21 = .ok (.iadd, 1) := by decide +kernel
theorem dX9_copies_22 : decode cX9_copies 22 = .ok (.iaload, 1) := by decide +kernel
theorem dX9_copies_23 : decode cX9_copies 23 = .ok (.iload_n 2, 1) := by decide +kernel
theorem dX9_copies_24 : decode cX9_copies 24 = .ok (.aload_n 0, 1) := by decide +kernel
theorem dX9_copies_25 : decode cX9_copies 25 = .ok (.getfield 7, 3) := by decide +kernel
theorem dX9_copies_28 : decode cX9_copies 28 = .ok (.iload_n 3, 1) := by decide +kernel
theorem dX9_copies_29 : decode cX9_copies 29 = .ok (.iconst 3, 1) := by decide +kernel
theorem dX9_copies_30 : decode cX9_copies 30 = .ok (.iadd, 1) := by decide +kernel
theorem dX9_copies_31 : decode cX9_copies 31 = .ok (.iaload, 1) := by decide +kernel
theorem dX9_copies_32 : decode cX9_copies 32 = .ok (.invokevirtual 54, 3) := by decide +kernel
theorem dX9_copies_35 : decode cX9_copies 35 = .ok (.return_, 1) := by decide +kernel
theorem dX9_goesFirst_0 : decode cX9_goesFirst 0 = .ok (.aload_n 0, 1) := by decide +kernel
theorem dX9_goesFirst_1 : decode cX9_goesFirst 1 = .ok (.getfield 7, 3) := by decide +kernel
theorem dX9_goesFirst_4 : decode cX9_goesFirst 4 = .ok (.bipush 11, 2) := by decide +kernel
theorem dX9_goesFirst_6 : decode cX9_goesFirst 6 = .ok (.dup2, 1) := by decide +kernel
theorem dX9_goesFirst_7 : decode cX9_goesFirst 7 = .ok (.iaload, 1) := by decide +kernel
theorem dX9_goesFirst_8 : decode cX9_goesFirst 8 = .ok (.iconst 1, 1) := by decide +kernel
theorem dX9_goesFirst_9 : decode cX9_goesFirst 9 = .ok (.isub, 1) := by decide +kernel
theorem dX9_goesFirst_10 : decode cX9_goesFirst 10 = .ok (.iastore, 1) := by decide +kernel
theorem dX9_goesFirst_11 : decode cX9_goesFirst 11 = .ok (.sipush 216, 3) := by decide +kernel
theorem dX9_goesFirst_14 : decode cX9_goesFirst 14 = .ok (.istore_n 1, 1) := by decide +kernel
theorem dX9_goesFirst_15 : decode cX9_goesFirst 15 = .ok (.iload_n 1, 1) := by decide +kernel
theorem dX9_goesFirst_16 : decode cX9_goesFirst 16 = .ok (.sipush 216, 3) := by decide +kernel
theorem dX9_goesFirst_19 : decode cX9_goesFirst 19 = .ok (.iconst 4, 1) := by decide +kernel
theorem dX9_goesFirst_20 : decode cX9_goesFirst 20 = .ok (.aload_n 0, 1) := by decide +kernel
theorem dX9_goesFirst_21 : decode cX9_goesFirst 21 = .ok (.getfield 7, 3) := by decide +kernel
theorem dX9_goesFirst_24 : decode cX9_goesFirst 24 = .ok (.bipush 11, 2) := by decide +kernel
theorem dX9_goesFirst_26 : decode cX9_goesFirst 26 = .ok (.iaload, 1) := by decide +kernel
theorem dX9_goesFirst_27 : decode cX9_goesFirst 27 = .ok (.imul, 1) := by decide +kernel
theorem dX9_goesFirst_28 : decode cX9_goesFirst 28 = .ok (.iadd, 1) := by decide +kernel
theorem dX9_goesFirst_29 : decode cX9_goesFirst 29 = .ok (.if_icmp .ge 23, 3) := by decide +kernel
theorem dX9_goesFirst_32 : decode cX9_goesFirst 32 = .ok (.aload_n 0, 1) := by decide +kernel
theorem dX9_goesFirst_33 : decode cX9_goesFirst 33 = .ok (.getfield 7, 3) := by decide +kernel
theorem dX9_goesFirst_36 : decode cX9_goesFirst 36 = .ok (.iload_n 1, 1) := by decide +kernel
theorem dX9_goesFirst_37 : decode cX9_goesFirst 37 = .ok (.aload_n 0, 1) := by decide +kernel
theorem dX9_goesFirst_38 : decode cX9_goesFirst 38 = .ok (.getfield 7, 3) := by decide +kernel
theorem dX9_goesFirst_41 : decode cX9_goesFirst 41 = .ok (.iload_n 1, 1) := by decide +kernel
theorem dX9_goesFirst_42 : decode cX9_goesFirst 42 = .ok (.iconst 4, 1) := by decide +kernel
theorem dX9_goesFirst_43 : decode cX9_goesFirst 43 = .ok (.iadd, 1) := by decide +kernel
theorem dX9_goesFirst_44 : decode cX9_goesFirst 44 = .ok (.iaload, 1) := by decide +kernel
theorem dX9_goesFirst_45 : decode cX9_goesFirst 45 = .ok (.iastore, 1) := by decide +kernel
theorem dX9_goesFirst_46 : decode cX9_goesFirst 46 = .ok (.iinc 1 1, 3) := by decide +kernel
theorem dX9_goesFirst_49 : decode cX9_goesFirst 49 = .ok (.goto (-34), 3) := by decide +kernel
theorem dX9_goesFirst_52 : decode cX9_goesFirst 52 = .ok (.iconst 0, 1) := by decide +kernel
theorem dX9_goesFirst_53 : decode cX9_goesFirst 53 = .ok (.istore_n 1, 1) := by decide +kernel
theorem dX9_goesFirst_54 : decode cX9_goesFirst 54 = .ok (.iload_n 1, 1) := by decide +kernel
theorem dX9_goesFirst_55 : decode cX9_goesFirst 55 = .ok (.iconst 4, 1) := by decide +kernel
theorem dX9_goesFirst_56 : decode cX9_goesFirst 56 = .ok (.if_icmp .ge 30, 3) := by decide +kernel
theorem dX9_goesFirst_59 : decode cX9_goesFirst 59 = .ok (.aload_n 0, 1) := by decide +kernel
theorem dX9_goesFirst_60 : decode cX9_goesFirst 60 = .ok (.getfield 7, 3) := by decide +kernel
theorem dX9_goesFirst_63 : decode cX9_goesFirst 63 = .ok (.sipush 216, 3) := by decide +kernel
theorem dX9_goesFirst_66 : decode cX9_goesFirst 66 = .ok (.iconst 4, 1) := by decide +kernel
theorem dX9_goesFirst_67 : decode cX9_goesFirst 67 = .ok (.aload_n 0, 1) := by decide +kernel
theorem dX9_goesFirst_68 : decode cX9_goesFirst 68 = .ok (.getfield 7, 3) := by decide +kernel
theorem dX9_goesFirst_71 : decode cX9_goesFirst 71 = .ok (.bipush 11, 2) := by decide +kernel
theorem dX9_goesFirst_73 : decode cX9_goesFirst 73 = .ok (.iaload, 1) := by decide +kernel
theorem dX9_goesFirst_74 : decode cX9_goesFirst 74 = .ok (.imul, 1) := by decide +kernel
theorem dX9_goesFirst_75 : decode cX9_goesFirst 75 = .ok (.iadd, 1) := by decide +kernel
theorem dX9_goesFirst_76 : decode cX9_goesFirst 76 = .ok (.iload_n 1, 1) := by decide +kernel
theorem dX9_goesFirst_77 : decode cX9_goesFirst 77 = .ok (.iadd, 1) := by decide +kernel
theorem dX9_goesFirst_78 : decode cX9_goesFirst 78 = .ok (.iconst 0, 1) := by decide +kernel
theorem dX9_goesFirst_79 : decode cX9_goesFirst 79 = .ok (.iastore, 1) := by decide +kernel
theorem dX9_goesFirst_80 : decode cX9_goesFirst 80 = .ok (.iinc 1 1, 3) := by decide +kernel
theorem dX9_goesFirst_83 : decode cX9_goesFirst 83 = .ok (.goto (-29), 3) := by decide +kernel
theorem dX9_goesFirst_86 : decode cX9_goesFirst 86 = .ok (.return_, 1) := by decide +kernel
theorem dX9_isPassed_0 : decode cX9_isPassed 0 = .ok (.aload_n 0, 1) := by decide +kernel
theorem dX9_isPassed_1 : decode cX9_isPassed 1 = .ok (.getfield 7, 3) := by decide +kernel
theorem dX9_isPassed_4 : decode cX9_isPassed 4 = .ok (.sipush 218, 3) := by decide +kernel
theorem dX9_isPassed_7 : decode cX9_isPassed 7 = .ok (.iaload, 1) := by decide +kernel
theorem dX9_isPassed_8 : decode cX9_isPassed 8 = .ok (.iconst 3, 1) := by decide +kernel
theorem dX9_isPassed_9 : decode cX9_isPassed 9 = .ok (.irem, 1) := by decide +kernel
theorem dX9_isPassed_10 : decode cX9_isPassed 10 = .ok (.ifCond .ne 30, 3) := by decide +kernel
theorem dX9_isPassed_13 : decode cX9_isPassed 13 = .ok (.aload_n 0, 1) := by decide +kernel
theorem dX9_isPassed_14 : decode cX9_isPassed 14 = .ok (.aload_n 0, 1) := by decide +kernel
theorem dX9_isPassed_15 : decode cX9_isPassed 15 = .ok (.getfield 7, 3) := by decide +kernel
theorem dX9_isPassed_18 : decode cX9_isPassed 18 = .ok (.sipush 216, 3) := by decide +kernel
theorem dX9_isPassed_21 : decode cX9_isPassed 21 = .ok (.iaload, 1) := by decide +kernel
theorem dX9_isPassed_22 : decode cX9_isPassed 22 = .ok (.invokevirtual 58, 3) := by decide +kernel
theorem dX9_isPassed_25 : decode cX9_isPassed 25 = .ok (.aload_n 0, 1) := by decide +kernel
theorem dX9_isPassed_26 : decode cX9_isPassed 26 = .ok (.getfield 7, 3) := by decide +kernel
theorem dX9_isPassed_29 : decode cX9_isPassed 29 = .ok (.sipush 219, 3) := by decide +kernel
theorem dX9_isPassed_32 : decode cX9_isPassed 32 = .ok (.iaload, 1) := by decide +kernel
theorem dX9_isPassed_33 : decode cX9_isPassed 33 = .ok (.if_icmp .eq 7, 3) := by decide +kernel
theorem dX9_isPassed_36 : decode cX9_isPassed 36 = .ok (.iconst 1, 1) := by decide +kernel
theorem dX9_isPassed_37 : decode cX9_isPassed 37 = .ok (.goto 4, 3) := by decide +kernel
theorem dX9_isPassed_40 : decode cX9_isPassed 40 = .ok (.iconst 0, 1) := by decide +kernel
theorem dX9_isPassed_41 : decode cX9_isPassed 41 = .ok (.ireturn, 1) := by decide +kernel
theorem dX9_now_0 : decode cX9_now 0 = .ok (.aload_n 0, 1) := by decide +kernel
theorem dX9_now_1 : decode cX9_now 1 = .ok (.getfield 7, 3) := by decide +kernel
theorem dX9_now_4 : decode cX9_now 4 = .ok (.sipush 248, 3) := by decide +kernel
theorem dX9_now_7 : decode cX9_now 7 = .ok (.iload_n 1, 1) := by decide +kernel
theorem dX9_now_8 : decode cX9_now 8 = .ok (.iadd, 1) := by decide +kernel
theorem dX9_now_9 : decode cX9_now 9 = .ok (.iaload, 1) := by decide +kernel
theorem dX9_now_10 : decode cX9_now 10 = .ok (.ireturn, 1) := by decide +kernel
theorem dX9_isWriting_0 : decode cX9_isWriting 0 = .ok (.aload_n 0, 1) := by decide +kernel
theorem dX9_isWriting_1 : decode cX9_isWriting 1 = .ok (.bipush 6, 2) := by decide +kernel
theorem dX9_isWriting_3 : decode cX9_isWriting 3 = .ok (.invokevirtual 61, 3) := by decide +kernel
theorem dX9_isWriting_6 : decode cX9_isWriting 6 = .ok (.ifCond .gt 11, 3) := by decide +kernel
theorem dX9_isWriting_9 : decode cX9_isWriting 9 = .ok (.aload_n 0, 1) := by decide +kernel
theorem dX9_isWriting_10 : decode cX9_isWriting 10 = .ok (.iconst 5, 1) := by decide +kernel
theorem dX9_isWriting_11 : decode cX9_isWriting 11 = .ok (.invokevirtual 61, 3) := by decide +kernel
theorem dX9_isWriting_14 : decode cX9_isWriting 14 = .ok (.ifCond .le 7, 3) := by decide +kernel
theorem dX9_isWriting_17 : decode cX9_isWriting 17 = .ok (.iconst 1, 1) := by decide +kernel
theorem dX9_isWriting_18 : decode cX9_isWriting 18 = .ok (.goto 4, 3) := by decide +kernel
theorem dX9_isWriting_21 : decode cX9_isWriting 21 = .ok (.iconst 0, 1) := by decide +kernel
theorem dX9_isWriting_22 : decode cX9_isWriting 22 = .ok (.ireturn, 1) := by decide +kernel
theorem dX9_begin1_0 : decode cX9_begin1 0 = .ok (.aload_n 0, 1) := by decide +kernel
theorem dX9_begin1_1 : decode cX9_begin1 1 = .ok (.getfield 7, 3) := by decide +kernel
theorem dX9_begin1_4 : decode cX9_begin1 4 = .ok (.iconst 2, 1) := by decide +kernel
theorem dX9_begin1_5 : decode cX9_begin1 5 = .ok (.iaload, 1) := by decide +kernel
theorem dX9_begin1_6 : decode cX9_begin1 6 = .ok (.istore_n 2, 1) := by decide +kernel
theorem dX9_begin1_7 : decode cX9_begin1 7 = .ok (.iload_n 1, 1) := by decide +kernel
theorem dX9_begin1_8 : decode cX9_begin1 8 = .ok (.invokestatic 64, 3) := by decide +kernel
theorem dX9_begin1_11 : decode cX9_begin1 11 = .ok (.istore_n 3, 1) := by decide +kernel
theorem dX9_begin1_12 : decode cX9_begin1 12 = .ok (.aload_n 0, 1) := by decide +kernel
theorem dX9_begin1_13 : decode cX9_begin1 13 = .ok (.iload_n 2, 1) := by decide +kernel
theorem dX9_begin1_14 : decode cX9_begin1 14 = .ok (.iload_n 3, 1) := by decide +kernel
theorem dX9_begin1_15 : decode cX9_begin1 15 = .ok (.invokestatic 67, 3) := by decide +kernel
theorem dX9_begin1_18 : decode cX9_begin1 18 = .ok (.invokevirtual 40, 3) := by decide +kernel
theorem dX9_begin1_21 : decode cX9_begin1 21 = .ok (.istore 4, 2) := by decide +kernel
theorem dX9_begin1_23 : decode cX9_begin1 23 = .ok (.iload_n 1, 1) := by decide +kernel
theorem dX9_begin1_24 : decode cX9_begin1 24 = .ok (.invokestatic 36, 3) := by decide +kernel
theorem dX9_begin1_27 : decode cX9_begin1 27 = .ok (.ifCond .eq 29, 3) := by decide +kernel
theorem dX9_begin1_30 : decode cX9_begin1 30 = .ok (.aload_n 0, 1) := by decide +kernel
theorem dX9_begin1_31 : decode cX9_begin1 31 = .ok (.getfield 7, 3) := by decide +kernel
theorem dX9_begin1_34 : decode cX9_begin1 34 = .ok (.bipush 22, 2) := by decide +kernel
theorem dX9_begin1_36 : decode cX9_begin1 36 = .ok (.iaload, 1) := by decide +kernel
theorem dX9_begin1_37 : decode cX9_begin1 37 = .ok (.iconst 1, 1) := by decide +kernel
theorem dX9_begin1_38 : decode cX9_begin1 38 = .ok (.if_icmp .ne 18, 3) := by decide +kernel
theorem dX9_begin1_41 : decode cX9_begin1 41 = .ok (.aload_n 0, 1) := by decide +kernel
theorem dX9_begin1_42 : decode cX9_begin1 42 = .ok (.getfield 7, 3) := by decide +kernel
theorem dX9_begin1_45 : decode cX9_begin1 45 = .ok (.iload 4, 2) := by decide +kernel
theorem dX9_begin1_47 : decode cX9_begin1 47 = .ok (.iaload, 1) := by decide +kernel
theorem dX9_begin1_48 : decode cX9_begin1 48 = .ok (.iconst 2, 1) := by decide +kernel
theorem dX9_begin1_49 : decode cX9_begin1 49 = .ok (.if_icmp .ne 7, 3) := by decide +kernel
theorem dX9_begin1_52 : decode cX9_begin1 52 = .ok (.iconst 1, 1) := by decide +kernel
theorem dX9_begin1_53 : decode cX9_begin1 53 = .ok (.goto 4, 3) := by decide +kernel
theorem dX9_begin1_56 : decode cX9_begin1 56 = .ok (.iconst 0, 1) := by decide +kernel
theorem dX9_begin1_57 : decode cX9_begin1 57 = .ok (.istore 5, 2) := by decide +kernel
theorem dX9_begin1_59 : decode cX9_begin1 59 = .ok (.aload_n 0, 1) := by decide +kernel
theorem dX9_begin1_60 : decode cX9_begin1 60 = .ok (.getfield 7, 3) := by decide +kernel
theorem dX9_begin1_63 : decode cX9_begin1 63 = .ok (.bipush 10, 2) := by decide +kernel
theorem dX9_begin1_65 : decode cX9_begin1 65 = .ok (.dup2, 1) := by decide +kernel
theorem dX9_begin1_66 : decode cX9_begin1 66 = .ok (.iaload, 1) := by decide +kernel
theorem dX9_begin1_67 : decode cX9_begin1 67 = .ok (.iconst 1, 1) := by decide +kernel
theorem dX9_begin1_68 : decode cX9_begin1 68 = .ok (.iadd, 1) := by decide +kernel
theorem dX9_begin1_69 : decode cX9_begin1 69 = .ok (.iastore, 1) := by decide +kernel
theorem dX9_begin1_70 : decode cX9_begin1 70 = .ok (.aload_n 0, 1) := by decide +kernel
theorem dX9_begin1_71 : decode cX9_begin1 71 = .ok (.getfield 7, 3) := by decide +kernel
theorem dX9_begin1_74 : decode cX9_begin1 74 = .ok (.sipush 248, 3) := by decide +kernel
theorem dX9_begin1_77 : decode cX9_begin1 77 = .ok (.iload_n 1, 1) := by decide +kernel
theorem dX9_begin1_78 : decode cX9_begin1 78 = .ok (.iastore, 1) := by decide +kernel
theorem dX9_begin1_79 : decode cX9_begin1 79 = .ok (.aload_n 0, 1) := by decide +kernel
theorem dX9_begin1_80 : decode cX9_begin1 80 = .ok (.getfield 7, 3) := by decide +kernel
theorem dX9_begin1_83 : decode cX9_begin1 83 = .ok (.sipush 249, 3) := by decide +kernel
theorem dX9_begin1_86 : decode cX9_begin1 86 = .ok (.aload_n 0, 1) := by decide +kernel
theorem dX9_begin1_87 : decode cX9_begin1 87 = .ok (.getfield 7, 3) := by decide +kernel
theorem dX9_begin1_90 : decode cX9_begin1 90 = .ok (.sipush 216, 3) := by decide +kernel
theorem dX9_begin1_93 : decode cX9_begin1 93 = .ok (.iaload, 1) := by decide +kernel
theorem dX9_begin1_94 : decode cX9_begin1 94 = .ok (.iastore, 1) := by decide +kernel
theorem dX9_begin1_95 : decode cX9_begin1 95 = .ok (.aload_n 0, 1) := by decide +kernel
theorem dX9_begin1_96 : decode cX9_begin1 96 = .ok (.getfield 7, 3) := by decide +kernel
theorem dX9_begin1_99 : decode cX9_begin1 99 = .ok (.sipush 250, 3) := by decide +kernel
theorem dX9_begin1_102 : decode cX9_begin1 102 = .ok (.aload_n 0, 1) := by decide +kernel
theorem dX9_begin1_103 : decode cX9_begin1 103 = .ok (.getfield 7, 3) := by decide +kernel
theorem dX9_begin1_106 : decode cX9_begin1 106 = .ok (.sipush 217, 3) := by decide +kernel
theorem dX9_begin1_109 : decode cX9_begin1 109 = .ok (.iaload, 1) := by decide +kernel
theorem dX9_begin1_110 : decode cX9_begin1 110 = .ok (.iastore, 1) := by decide +kernel
theorem dX9_begin1_111 : decode cX9_begin1 111 = .ok (.aload_n 0, 1) := by decide +kernel
theorem dX9_begin1_112 : decode cX9_begin1 112 = .ok (.getfield 7, 3) := by decide +kernel
theorem dX9_begin1_115 : decode cX9_begin1 115 = .ok (.sipush 251, 3) := by decide +kernel
theorem dX9_begin1_118 : decode cX9_begin1 118 = .ok (.aload_n 0, 1) := by decide +kernel
theorem dX9_begin1_119 : decode cX9_begin1 119 = .ok (.getfield 7, 3) := by decide +kernel
theorem dX9_begin1_122 : decode cX9_begin1 122 = .ok (.sipush 218, 3) := by decide +kernel
theorem dX9_begin1_125 : decode cX9_begin1 125 = .ok (.iaload, 1) := by decide +kernel
theorem dX9_begin1_126 : decode cX9_begin1 126 = .ok (.iastore, 1) := by decide +kernel
theorem dX9_begin1_127 : decode cX9_begin1 127 = .ok (.aload_n 0, 1) := by decide +kernel
theorem dX9_begin1_128 : decode cX9_begin1 128 = .ok (.getfield 7, 3) := by decide +kernel
theorem dX9_begin1_131 : decode cX9_begin1 131 = .ok (.sipush 252, 3) := by decide +kernel
theorem dX9_begin1_134 : decode cX9_begin1 134 = .ok (.aload_n 0, 1) := by decide +kernel
theorem dX9_begin1_135 : decode cX9_begin1 135 = .ok (.getfield 7, 3) := by decide +kernel
theorem dX9_begin1_138 : decode cX9_begin1 138 = .ok (.bipush 10, 2) := by decide +kernel
theorem dX9_begin1_140 : decode cX9_begin1 140 = .ok (.iaload, 1) := by decide +kernel
theorem dX9_begin1_141 : decode cX9_begin1 141 = .ok (.iastore, 1) := by decide +kernel
theorem dX9_begin1_142 : decode cX9_begin1 142 = .ok (.aload_n 0, 1) := by decide +kernel
theorem dX9_begin1_143 : decode cX9_begin1 143 = .ok (.getfield 7, 3) := by decide +kernel
theorem dX9_begin1_146 : decode cX9_begin1 146 = .ok (.sipush 253, 3) := by decide +kernel
theorem dX9_begin1_149 : decode cX9_begin1 149 = .ok (.iload 5, 2) := by decide +kernel
theorem dX9_begin1_151 : decode cX9_begin1 151 = .ok (.ifCond .eq 7, 3) := by decide +kernel
theorem dX9_begin1_154 : decode cX9_begin1 154 = .ok (.iconst 2, 1) := by decide +kernel
theorem dX9_begin1_155 : decode cX9_begin1 155 = .ok (.goto 4, 3) := by decide +kernel
theorem dX9_begin1_158 : decode cX9_begin1 158 = .ok (.iconst 0, 1) := by decide +kernel
theorem dX9_begin1_159 : decode cX9_begin1 159 = .ok (.iastore, 1) := by decide +kernel
theorem dX9_begin1_160 : decode cX9_begin1 160 = .ok (.aload_n 0, 1) := by decide +kernel
theorem dX9_begin1_161 : decode cX9_begin1 161 = .ok (.getfield 7, 3) := by decide +kernel
theorem dX9_begin1_164 : decode cX9_begin1 164 = .ok (.sipush 254, 3) := by decide +kernel
theorem dX9_begin1_167 : decode cX9_begin1 167 = .ok (.aload_n 0, 1) := by decide +kernel
theorem dX9_begin1_168 : decode cX9_begin1 168 = .ok (.getfield 7, 3) := by decide +kernel
theorem dX9_begin1_171 : decode cX9_begin1 171 = .ok (.bipush 20, 2) := by decide +kernel
theorem dX9_begin1_173 : decode cX9_begin1 173 = .ok (.iload_n 1, 1) := by decide +kernel
theorem dX9_begin1_174 : decode cX9_begin1 174 = .ok (.invokestatic 36, 3) := by decide +kernel
theorem dX9_begin1_177 : decode cX9_begin1 177 = .ok (.ifCond .eq 7, 3) := by decide +kernel
theorem dX9_begin1_180 : decode cX9_begin1 180 = .ok (.iconst 1, 1) := by decide +kernel
theorem dX9_begin1_181 : decode cX9_begin1 181 = .ok (.goto 4, 3) := by decide +kernel
theorem dX9_begin1_184 : decode cX9_begin1 184 = .ok (.iconst 0, 1) := by decide +kernel
theorem dX9_begin1_185 : decode cX9_begin1 185 = .ok (.iadd, 1) := by decide +kernel
theorem dX9_begin1_186 : decode cX9_begin1 186 = .ok (.iaload, 1) := by decide +kernel
theorem dX9_begin1_187 : decode cX9_begin1 187 = .ok (.aload_n 0, 1) := by decide +kernel
theorem dX9_begin1_188 : decode cX9_begin1 188 = .ok (.getfield 7, 3) := by decide +kernel
theorem dX9_begin1_191 : decode cX9_begin1 191 = .ok (.bipush 12, 2) := by decide +kernel
theorem dX9_begin1_193 : decode cX9_begin1 193 = .ok (.iload_n 3, 1) := by decide +kernel
theorem dX9_begin1_194 : decode cX9_begin1 194 = .ok (.iadd, 1) := by decide +kernel
theorem dX9_begin1_195 : decode cX9_begin1 195 = .ok (.iaload, 1) := by decide +kernel
theorem dX9_begin1_196 : decode cX9_begin1 196 = .ok (.iadd, 1) := by decide +kernel
theorem dX9_begin1_197 : decode cX9_begin1 197 = .ok (.aload_n 0, 1) := by decide +kernel
theorem dX9_begin1_198 : decode cX9_begin1 198 = .ok (.getfield 7, 3) := by decide +kernel
theorem dX9_begin1_201 : decode cX9_begin1 201 = .ok (.bipush 6, 2) := by decide +kernel
theorem dX9_begin1_203 : decode cX9_begin1 203 = .ok (.iload_n 2, 1) := by decide +kernel
theorem dX9_begin1_204 : decode cX9_begin1 204 = .ok (.iadd, 1) := by decide +kernel
theorem dX9_begin1_205 : decode cX9_begin1 205 = .ok (.iaload, 1) := by decide +kernel
theorem dX9_begin1_206 : decode cX9_begin1 206 = .ok (.aload_n 0, 1) := by decide +kernel
theorem dX9_begin1_207 : decode cX9_begin1 207 = .ok (.getfield 7, 3) := by decide +kernel
theorem dX9_begin1_210 : decode cX9_begin1 210 = .ok (.bipush 23, 2) := by decide +kernel
theorem dX9_begin1_212 : decode cX9_begin1 212 = .ok (.iaload, 1) := by decide +kernel
theorem dX9_begin1_213 : decode cX9_begin1 213 = .ok (.idiv, 1) := by decide +kernel
theorem dX9_begin1_214 : decode cX9_begin1 214 = .ok (.iadd, 1) := by decide +kernel
theorem dX9_begin1_215 : decode cX9_begin1 215 = .ok (.iastore, 1) := by decide +kernel
theorem dX9_begin1_216 : decode cX9_begin1 216 = .ok (.aload_n 0, 1) := by decide +kernel
theorem dX9_begin1_217 : decode cX9_begin1 217 = .ok (.getfield 7, 3) := by decide +kernel
theorem dX9_begin1_220 : decode cX9_begin1 220 = .ok (.sipush 255, 3) := by decide +kernel
theorem dX9_begin1_223 : decode cX9_begin1 223 = .ok (.iconst 0, 1) := by decide +kernel
theorem dX9_begin1_224 : decode cX9_begin1 224 = .ok (.iastore, 1) := by decide +kernel
theorem dX9_begin1_225 : decode cX9_begin1 225 = .ok (.aload_n 0, 1) := by decide +kernel
theorem dX9_begin1_226 : decode cX9_begin1 226 = .ok (.getfield 7, 3) := by decide +kernel
theorem dX9_begin1_229 : decode cX9_begin1 229 = .ok (.aload_n 0, 1) := by decide +kernel
theorem dX9_begin1_230 : decode cX9_begin1 230 = .ok (.iload_n 2, 1) := by decide +kernel
theorem dX9_begin1_231 : decode cX9_begin1 231 = .ok (.iload_n 1, 1) := by decide +kernel
theorem dX9_begin1_232 : decode cX9_begin1 232 = .ok (.invokevirtual 40, 3) := by decide +kernel
theorem dX9_begin1_235 : decode cX9_begin1 235 = .ok (.iconst 1, 1) := by decide +kernel
theorem dX9_begin1_236 : decode cX9_begin1 236 = .ok (.iastore, 1) := by decide +kernel
theorem dX9_begin1_237 : decode cX9_begin1 237 = .ok (.iload 5, 2) := by decide +kernel
theorem dX9_begin1_239 : decode cX9_begin1 239 = .ok (.ifCond .eq 54, 3) := by decide +kernel
theorem dX9_begin1_242 : decode cX9_begin1 242 = .ok (.aload_n 0, 1) := by decide +kernel
theorem dX9_begin1_243 : decode cX9_begin1 243 = .ok (.getfield 7, 3) := by decide +kernel
theorem dX9_begin1_246 : decode cX9_begin1 246 = .ok (.aload_n 0, 1) := by decide +kernel
theorem dX9_begin1_247 : decode cX9_begin1 247 = .ok (.iload_n 2, 1) := by decide +kernel
theorem dX9_begin1_248 : decode cX9_begin1 248 = .ok (.iload_n 3, 1) := by decide +kernel
theorem dX9_begin1_249 : decode cX9_begin1 249 = .ok (.invokevirtual 48, 3) := by decide +kernel
theorem dX9_begin1_252 : decode cX9_begin1 252 = .ok (.iconst 1, 1) := by decide +kernel
theorem dX9_begin1_253 : decode cX9_begin1 253 = .ok (.iastore, 1) := by decide +kernel
theorem dX9_begin1_254 : decode cX9_begin1 254 = .ok (.iconst 1, 1) := by decide +kernel
theorem dX9_begin1_255 : decode cX9_begin1 255 = .ok (.istore 6, 2) := by decide +kernel
theorem dX9_begin1_257 : decode cX9_begin1 257 = .ok (.iload 6, 2) := by decide +kernel
theorem dX9_begin1_259 : decode cX9_begin1 259 = .ok (.iconst 4, 1) := by decide +kernel
theorem dX9_begin1_260 : decode cX9_begin1 260 = .ok (.if_icmp .ge 33, 3) := by decide +kernel
theorem dX9_begin1_263 : decode cX9_begin1 263 = .ok (.aload_n 0, 1) := by decide +kernel
theorem dX9_begin1_264 : decode cX9_begin1 264 = .ok (.getfield 7, 3) := by decide +kernel
theorem dX9_begin1_267 : decode cX9_begin1 267 = .ok (.aload_n 0, 1) := by decide +kernel
theorem dX9_begin1_268 : decode cX9_begin1 268 = .ok (.iload_n 2, 1) := by decide +kernel
theorem dX9_begin1_269 : decode cX9_begin1 269 = .ok (.iload_n 3, 1) := by decide +kernel
theorem dX9_begin1_270 : decode cX9_begin1 270 = .ok (.invokevirtual 48, 3) := by decide +kernel
theorem dX9_begin1_273 : decode cX9_begin1 273 = .ok (.iload 6, 2) := by decide +kernel
theorem dX9_begin1_275 : decode cX9_begin1 275 = .ok (.iadd, 1) := by decide +kernel
theorem dX9_begin1_276 : decode cX9_begin1 276 = .ok (.aload_n 0, 1) := by decide +kernel
theorem dX9_begin1_277 : decode cX9_begin1 277 = .ok (.getfield 7, 3) := by decide +kernel
theorem dX9_begin1_280 : decode cX9_begin1 280 = .ok (.iload 4, 2) := by decide +kernel
theorem dX9_begin1_282 : decode cX9_begin1 282 = .ok (.iload 6, 2) := by decide +kernel
theorem dX9_begin1_284 : decode cX9_begin1 284 = .ok (.iadd, 1) := by decide +kernel
theorem dX9_begin1_285 : decode cX9_begin1 285 = .ok (.iaload, 1) := by decide +kernel
theorem dX9_begin1_286 : decode cX9_begin1 286 = .ok (.iastore, 1) := by decide +kernel
theorem dX9_begin1_287 : decode cX9_begin1 287 = .ok (.iinc 6 1, 3) := by decide +kernel
theorem dX9_begin1_290 : decode cX9_begin1 290 = .ok (.goto (-33), 3) := by decide +kernel
theorem dX9_begin1_293 : decode cX9_begin1 293 = .ok (.aload_n 0, 1) := by decide +kernel
theorem dX9_begin1_294 : decode cX9_begin1 294 = .ok (.invokevirtual 70, 3) := by decide +kernel
theorem dX9_begin1_297 : decode cX9_begin1 297 = .ok (.return_, 1) := by decide +kernel
theorem dX9_takes_0 : decode cX9_takes 0 = .ok (.aload_n 0, 1) := by decide +kernel
theorem dX9_takes_1 : decode cX9_takes 1 = .ok (.invokevirtual 73, 3) := by decide +kernel
theorem dX9_takes_4 : decode cX9_takes 4 = .ok (.istore_n 1, 1) := by decide +kernel
theorem dX9_takes_5 : decode cX9_takes 5 = .ok (.iload_n 1, 1) := by decide +kernel
theorem dX9_takes_6 : decode cX9_takes 6 = .ok (.bipush 16, 2) := by decide +kernel
theorem dX9_takes_8 : decode cX9_takes 8 = .ok (.if_icmp .ge 42, 3) := by decide +kernel
theorem dX9_takes_11 : decode cX9_takes 11 = .ok (.aload_n 0, 1) := by decide +kernel
theorem dX9_takes_12 : decode cX9_takes 12 = .ok (.getfield 7, 3) := by decide +kernel
theorem dX9_takes_15 : decode cX9_takes 15 = .ok (.bipush 11, 2) := by decide +kernel
theorem dX9_takes_17 : decode cX9_takes 17 = .ok (.iaload, 1) := by decide +kernel
theorem dX9_takes_18 : decode cX9_takes 18 = .ok (.ifCond .le 32, 3) := by decide +kernel
theorem dX9_takes_21 : decode cX9_takes 21 = .ok (.aload_n 0, 1) := by decide +kernel
theorem dX9_takes_22 : decode cX9_takes 22 = .ok (.invokevirtual 77, 3) := by decide +kernel
theorem dX9_takes_25 : decode cX9_takes 25 = .ok (.ifCond .ne 25, 3) := by decide +kernel
theorem dX9_takes_28 : decode cX9_takes 28 = .ok (.aload_n 0, 1) := by decide +kernel
theorem dX9_takes_29 : decode cX9_takes 29 = .ok (.invokevirtual 81, 3) := by decide +kernel
theorem dX9_takes_32 : decode cX9_takes 32 = .ok (.ifCond .eq 10, 3) := by decide +kernel
theorem dX9_takes_35 : decode cX9_takes 35 = .ok (.aload_n 0, 1) := by decide +kernel
theorem dX9_takes_36 : decode cX9_takes 36 = .ok (.invokevirtual 70, 3) := by decide +kernel
theorem dX9_takes_39 : decode cX9_takes 39 = .ok (.goto (-34), 3) := by decide +kernel
theorem dX9_takes_42 : decode cX9_takes 42 = .ok (.aload_n 0, 1) := by decide +kernel
theorem dX9_takes_43 : decode cX9_takes 43 = .ok (.iload_n 1, 1) := by decide +kernel
theorem dX9_takes_44 : decode cX9_takes 44 = .ok (.invokevirtual 84, 3) := by decide +kernel
theorem dX9_takes_47 : decode cX9_takes 47 = .ok (.goto (-42), 3) := by decide +kernel
theorem dX9_takes_50 : decode cX9_takes 50 = .ok (.return_, 1) := by decide +kernel
theorem dX9_clearsBackup_0 : decode cX9_clearsBackup 0 = .ok (.iconst 0, 1) := by decide +kernel
theorem dX9_clearsBackup_1 : decode cX9_clearsBackup 1 = .ok (.istore_n 3, 1) := by decide +kernel
theorem dX9_clearsBackup_2 : decode cX9_clearsBackup 2 = .ok (.iload_n 3, 1) := by decide +kernel
theorem dX9_clearsBackup_3 : decode cX9_clearsBackup 3 = .ok (.iconst 4, 1) := by decide +kernel
theorem dX9_clearsBackup_4 : decode cX9_clearsBackup 4 = .ok (.if_icmp .ge 23, 3) := by decide +kernel
theorem dX9_clearsBackup_7 : decode cX9_clearsBackup 7 = .ok (.aload_n 0, 1) := by decide +kernel
theorem dX9_clearsBackup_8 : decode cX9_clearsBackup 8 = .ok (.getfield 7, 3) := by decide +kernel
theorem dX9_clearsBackup_11 : decode cX9_clearsBackup 11 = .ok (.aload_n 0, 1) := by decide +kernel
theorem dX9_clearsBackup_12 : decode cX9_clearsBackup 12 = .ok (.iload_n 1, 1) := by decide +kernel
theorem dX9_clearsBackup_13 : decode cX9_clearsBackup 13 = .ok (.iload_n 2, 1) := by decide +kernel
theorem dX9_clearsBackup_14 : decode cX9_clearsBackup 14 = .ok (.invokevirtual 48, 3) := by decide +kernel
theorem dX9_clearsBackup_17 : decode cX9_clearsBackup 17 = .ok (.iload_n 3, 1) := by decide +kernel
theorem dX9_clearsBackup_18 : decode cX9_clearsBackup 18 = .ok (.iadd, 1) := by decide +kernel
theorem dX9_clearsBackup_19 : decode cX9_clearsBackup 19 = .ok (.iconst 0, 1) := by decide +kernel
theorem dX9_clearsBackup_20 : decode cX9_clearsBackup 20 = .ok (.iastore, 1) := by decide +kernel
theorem dX9_clearsBackup_21 : decode cX9_clearsBackup 21 = .ok (.iinc 3 1, 3) := by decide +kernel
theorem dX9_clearsBackup_24 : decode cX9_clearsBackup 24 = .ok (.goto (-22), 3) := by decide +kernel
theorem dX9_clearsBackup_27 : decode cX9_clearsBackup 27 = .ok (.return_, 1) := by decide +kernel
theorem dX9_ends_0 : decode cX9_ends 0 = .ok (.aload_n 0, 1) := by decide +kernel
theorem dX9_ends_1 : decode cX9_ends 1 = .ok (.getfield 7, 3) := by decide +kernel
theorem dX9_ends_4 : decode cX9_ends 4 = .ok (.iconst 2, 1) := by decide +kernel
theorem dX9_ends_5 : decode cX9_ends 5 = .ok (.iaload, 1) := by decide +kernel
theorem dX9_ends_6 : decode cX9_ends 6 = .ok (.istore_n 1, 1) := by decide +kernel
theorem dX9_ends_7 : decode cX9_ends 7 = .ok (.aload_n 0, 1) := by decide +kernel
theorem dX9_ends_8 : decode cX9_ends 8 = .ok (.iconst 0, 1) := by decide +kernel
theorem dX9_ends_9 : decode cX9_ends 9 = .ok (.invokevirtual 61, 3) := by decide +kernel
theorem dX9_ends_12 : decode cX9_ends 12 = .ok (.istore_n 2, 1) := by decide +kernel
theorem dX9_ends_13 : decode cX9_ends 13 = .ok (.aload_n 0, 1) := by decide +kernel
theorem dX9_ends_14 : decode cX9_ends 14 = .ok (.iload_n 1, 1) := by decide +kernel
theorem dX9_ends_15 : decode cX9_ends 15 = .ok (.iload_n 2, 1) := by decide +kernel
theorem dX9_ends_16 : decode cX9_ends 16 = .ok (.invokevirtual 40, 3) := by decide +kernel
theorem dX9_ends_19 : decode cX9_ends 19 = .ok (.istore_n 3, 1) := by decide +kernel
theorem dX9_ends_20 : decode cX9_ends 20 = .ok (.aload_n 0, 1) := by decide +kernel
theorem dX9_ends_21 : decode cX9_ends 21 = .ok (.getfield 7, 3) := by decide +kernel
theorem dX9_ends_24 : decode cX9_ends 24 = .ok (.iload_n 3, 1) := by decide +kernel
theorem dX9_ends_25 : decode cX9_ends 25 = .ok (.iconst 2, 1) := by decide +kernel
theorem dX9_ends_26 : decode cX9_ends 26 = .ok (.iastore, 1) := by decide +kernel
theorem dX9_ends_27 : decode cX9_ends 27 = .ok (.aload_n 0, 1) := by decide +kernel
theorem dX9_ends_28 : decode cX9_ends 28 = .ok (.getfield 7, 3) := by decide +kernel
theorem dX9_ends_31 : decode cX9_ends 31 = .ok (.iload_n 3, 1) := by decide +kernel
theorem dX9_ends_32 : decode cX9_ends 32 = .ok (.iconst 1, 1) := by decide +kernel
theorem dX9_ends_33 : decode cX9_ends 33 = .ok (.iadd, 1) := by decide +kernel
theorem dX9_ends_34 : decode cX9_ends 34 = .ok (.aload_n 0, 1) := by decide +kernel
theorem dX9_ends_35 : decode cX9_ends 35 = .ok (.iconst 1, 1) := by decide +kernel
theorem dX9_ends_36 : decode cX9_ends 36 = .ok (.invokevirtual 61, 3) := by decide +kernel
theorem dX9_ends_39 : decode cX9_ends 39 = .ok (.iastore, 1) := by decide +kernel
theorem dX9_ends_40 : decode cX9_ends 40 = .ok (.aload_n 0, 1) := by decide +kernel
theorem dX9_ends_41 : decode cX9_ends 41 = .ok (.getfield 7, 3) := by decide +kernel
theorem dX9_ends_44 : decode cX9_ends 44 = .ok (.iload_n 3, 1) := by decide +kernel
theorem dX9_ends_45 : decode cX9_ends 45 = .ok (.iconst 2, 1) := by decide +kernel
theorem dX9_ends_46 : decode cX9_ends 46 = .ok (.iadd, 1) := by decide +kernel
theorem dX9_ends_47 : decode cX9_ends 47 = .ok (.aload_n 0, 1) := by decide +kernel
theorem dX9_ends_48 : decode cX9_ends 48 = .ok (.iconst 2, 1) := by decide +kernel
theorem dX9_ends_49 : decode cX9_ends 49 = .ok (.invokevirtual 61, 3) := by decide +kernel
theorem dX9_ends_52 : decode cX9_ends 52 = .ok (.iastore, 1) := by decide +kernel
theorem dX9_ends_53 : decode cX9_ends 53 = .ok (.aload_n 0, 1) := by decide +kernel
theorem dX9_ends_54 : decode cX9_ends 54 = .ok (.getfield 7, 3) := by decide +kernel
theorem dX9_ends_57 : decode cX9_ends 57 = .ok (.iload_n 3, 1) := by decide +kernel
theorem dX9_ends_58 : decode cX9_ends 58 = .ok (.iconst 3, 1) := by decide +kernel
theorem dX9_ends_59 : decode cX9_ends 59 = .ok (.iadd, 1) := by decide +kernel
theorem dX9_ends_60 : decode cX9_ends 60 = .ok (.aload_n 0, 1) := by decide +kernel
theorem dX9_ends_61 : decode cX9_ends 61 = .ok (.iconst 4, 1) := by decide +kernel
theorem dX9_ends_62 : decode cX9_ends 62 = .ok (.invokevirtual 61, 3) := by decide +kernel
theorem dX9_ends_65 : decode cX9_ends 65 = .ok (.iastore, 1) := by decide +kernel
theorem dX9_ends_66 : decode cX9_ends 66 = .ok (.iload_n 2, 1) := by decide +kernel
theorem dX9_ends_67 : decode cX9_ends 67 = .ok (.invokestatic 36, 3) := by decide +kernel
theorem dX9_ends_70 : decode cX9_ends 70 = .ok (.ifCond .eq 12, 3) := by decide +kernel
theorem dX9_ends_73 : decode cX9_ends 73 = .ok (.aload_n 0, 1) := by decide +kernel
theorem dX9_ends_74 : decode cX9_ends 74 = .ok (.iload_n 1, 1) := by decide +kernel
theorem dX9_ends_75 : decode cX9_ends 75 = .ok (.iload_n 2, 1) := by decide +kernel
theorem dX9_ends_76 : decode cX9_ends 76 = .ok (.invokestatic 64, 3) := by decide +kernel
theorem dX9_ends_79 : decode cX9_ends 79 = .ok (.invokevirtual 88, 3) := by decide +kernel
theorem dX9_ends_82 : decode cX9_ends 82 = .ok (.aload_n 0, 1) := by decide +kernel
theorem dX9_ends_83 : decode cX9_ends 83 = .ok (.getfield 7, 3) := by decide +kernel
theorem dX9_ends_86 : decode cX9_ends 86 = .ok (.iconst 3, 1) := by decide +kernel
theorem dX9_ends_87 : decode cX9_ends 87 = .ok (.dup2, 1) := by decide +kernel
theorem dX9_ends_88 : decode cX9_ends 88 = .ok (.iaload, 1) := by decide +kernel
theorem dX9_ends_89 : decode cX9_ends 89 = .ok (.aload_n 0, 1) := by decide +kernel
theorem dX9_ends_90 : decode cX9_ends 90 = .ok (.iconst 3, 1) := by decide +kernel
theorem dX9_ends_91 : decode cX9_ends 91 = .ok (.invokevirtual 61, 3) := by decide +kernel
theorem dX9_ends_94 : decode cX9_ends 94 = .ok (.iconst 3, 1) := by decide +kernel
theorem dX9_ends_95 : decode cX9_ends 95 = .ok (.irem, 1) := by decide +kernel
theorem dX9_ends_96 : decode cX9_ends 96 = .ok (.ifCond .ne 7, 3) := by decide +kernel
theorem dX9_ends_99 : decode cX9_ends 99 = .ok (.iconst 0, 1) := by decide +kernel
theorem dX9_ends_100 : decode cX9_ends 100 = .ok (.goto 4, 3) := by decide +kernel
theorem dX9_ends_103 : decode cX9_ends 103 = .ok (.iconst 1, 1) := by decide +kernel
theorem dX9_ends_104 : decode cX9_ends 104 = .ok (.iadd, 1) := by decide +kernel
theorem dX9_ends_105 : decode cX9_ends 105 = .ok (.iastore, 1) := by decide +kernel
theorem dX9_ends_106 : decode cX9_ends 106 = .ok (.aload_n 0, 1) := by decide +kernel
theorem dX9_ends_107 : decode cX9_ends 107 = .ok (.invokevirtual 92, 3) := by decide +kernel
theorem dX9_ends_110 : decode cX9_ends 110 = .ok (.return_, 1) := by decide +kernel
theorem dX9_clearsNow_0 : decode cX9_clearsNow 0 = .ok (.iconst 0, 1) := by decide +kernel
theorem dX9_clearsNow_1 : decode cX9_clearsNow 1 = .ok (.istore_n 1, 1) := by decide +kernel
theorem dX9_clearsNow_2 : decode cX9_clearsNow 2 = .ok (.iload_n 1, 1) := by decide +kernel
theorem dX9_clearsNow_3 : decode cX9_clearsNow 3 = .ok (.bipush 8, 2) := by decide +kernel
theorem dX9_clearsNow_5 : decode cX9_clearsNow 5 = .ok (.if_icmp .ge 20, 3) := by decide +kernel
theorem dX9_clearsNow_8 : decode cX9_clearsNow 8 = .ok (.aload_n 0, 1) := by decide +kernel
theorem dX9_clearsNow_9 : decode cX9_clearsNow 9 = .ok (.getfield 7, 3) := by decide +kernel
theorem dX9_clearsNow_12 : decode cX9_clearsNow 12 = .ok (.sipush 248, 3) := by decide +kernel
theorem dX9_clearsNow_15 : decode cX9_clearsNow 15 = .ok (.iload_n 1, 1) := by decide +kernel
theorem dX9_clearsNow_16 : decode cX9_clearsNow 16 = .ok (.iadd, 1) := by decide +kernel
theorem dX9_clearsNow_17 : decode cX9_clearsNow 17 = .ok (.iconst 0, 1) := by decide +kernel
theorem dX9_clearsNow_18 : decode cX9_clearsNow 18 = .ok (.iastore, 1) := by decide +kernel
theorem dX9_clearsNow_19 : decode cX9_clearsNow 19 = .ok (.iinc 1 1, 3) := by decide +kernel
theorem dX9_clearsNow_22 : decode cX9_clearsNow 22 = .ok (.goto (-20), 3) := by decide +kernel
theorem dX9_clearsNow_25 : decode cX9_clearsNow 25 = .ok (.return_, 1) := by decide +kernel
theorem dX9_ticks_0 : decode cX9_ticks 0 = .ok (.aload_n 0, 1) := by decide +kernel
theorem dX9_ticks_1 : decode cX9_ticks 1 = .ok (.getfield 7, 3) := by decide +kernel
theorem dX9_ticks_4 : decode cX9_ticks 4 = .ok (.iconst 0, 1) := by decide +kernel
theorem dX9_ticks_5 : decode cX9_ticks 5 = .ok (.dup2, 1) := by decide +kernel
theorem dX9_ticks_6 : decode cX9_ticks 6 = .ok (.iaload, 1) := by decide +kernel
theorem dX9_ticks_7 : decode cX9_ticks 7 = .ok (.iconst 1, 1) := by decide +kernel
theorem dX9_ticks_8 : decode cX9_ticks 8 = .ok (.iadd, 1) := by decide +kernel
theorem dX9_ticks_9 : decode cX9_ticks 9 = .ok (.iastore, 1) := by decide +kernel
theorem dX9_ticks_10 : decode cX9_ticks 10 = .ok (.aload_n 0, 1) := by decide +kernel
theorem dX9_ticks_11 : decode cX9_ticks 11 = .ok (.invokevirtual 77, 3) := by decide +kernel
theorem dX9_ticks_14 : decode cX9_ticks 14 = .ok (.ifCond .ne 7, 3) := by decide +kernel
theorem dX9_ticks_17 : decode cX9_ticks 17 = .ok (.aload_n 0, 1) := by decide +kernel
theorem dX9_ticks_18 : decode cX9_ticks 18 = .ok (.invokevirtual 95, 3) := by decide +kernel
theorem dX9_ticks_21 : decode cX9_ticks 21 = .ok (.aload_n 0, 1) := by decide +kernel
theorem dX9_ticks_22 : decode cX9_ticks 22 = .ok (.iconst 5, 1) := by decide +kernel
theorem dX9_ticks_23 : decode cX9_ticks 23 = .ok (.invokevirtual 61, 3) := by decide +kernel
theorem dX9_ticks_26 : decode cX9_ticks 26 = .ok (.ifCond .le 61, 3) := by decide +kernel
theorem dX9_ticks_29 : decode cX9_ticks 29 = .ok (.aload_n 0, 1) := by decide +kernel
theorem dX9_ticks_30 : decode cX9_ticks 30 = .ok (.getfield 7, 3) := by decide +kernel
theorem dX9_ticks_33 : decode cX9_ticks 33 = .ok (.sipush 253, 3) := by decide +kernel
theorem dX9_ticks_36 : decode cX9_ticks 36 = .ok (.dup2, 1) := by decide +kernel
theorem dX9_ticks_37 : decode cX9_ticks 37 = .ok (.iaload, 1) := by decide +kernel
theorem dX9_ticks_38 : decode cX9_ticks 38 = .ok (.iconst 1, 1) := by decide +kernel
theorem dX9_ticks_39 : decode cX9_ticks 39 = .ok (.isub, 1) := by decide +kernel
theorem dX9_ticks_40 : decode cX9_ticks 40 = .ok (.iastore, 1) := by decide +kernel
theorem dX9_ticks_41 : decode cX9_ticks 41 = .ok (.aload_n 0, 1) := by decide +kernel
theorem dX9_ticks_42 : decode cX9_ticks 42 = .ok (.iconst 5, 1) := by decide +kernel
theorem dX9_ticks_43 : decode cX9_ticks 43 = .ok (.invokevirtual 61, 3) := by decide +kernel
theorem dX9_ticks_46 : decode cX9_ticks 46 = .ok (.ifCond .ne 84, 3) := by decide +kernel
theorem dX9_ticks_49 : decode cX9_ticks 49 = .ok (.aload_n 0, 1) := by decide +kernel
theorem dX9_ticks_50 : decode cX9_ticks 50 = .ok (.getfield 7, 3) := by decide +kernel
theorem dX9_ticks_53 : decode cX9_ticks 53 = .ok (.aload_n 0, 1) := by decide +kernel
theorem dX9_ticks_54 : decode cX9_ticks 54 = .ok (.aload_n 0, 1) := by decide +kernel
theorem dX9_ticks_55 : decode cX9_ticks 55 = .ok (.getfield 7, 3) := by decide +kernel
theorem dX9_ticks_58 : decode cX9_ticks 58 = .ok (.iconst 2, 1) := by decide +kernel
theorem dX9_ticks_59 : decode cX9_ticks 59 = .ok (.iaload, 1) := by decide +kernel
theorem dX9_ticks_60 : decode cX9_ticks 60 = .ok (.aload_n 0, 1) := by decide +kernel
theorem dX9_ticks_61 : decode cX9_ticks 61 = .ok (.iconst 0, 1) := by decide +kernel
theorem dX9_ticks_62 : decode cX9_ticks 62 = .ok (.invokevirtual 61, 3) := by decide +kernel
theorem dX9_ticks_65 : decode cX9_ticks 65 = .ok (.invokestatic 64, 3) := by decide +kernel
theorem dX9_ticks_68 : decode cX9_ticks 68 = .ok (.invokevirtual 48, 3) := by decide +kernel
theorem dX9_ticks_71 : decode cX9_ticks 71 = .ok (.iconst 2, 1) := by decide +kernel
theorem dX9_ticks_72 : decode cX9_ticks 72 = .ok (.iastore, 1) := by decide +kernel
theorem dX9_ticks_73 : decode cX9_ticks 73 = .ok (.aload_n 0, 1) := by decide +kernel
theorem dX9_ticks_74 : decode cX9_ticks 74 = .ok (.getfield 7, 3) := by decide +kernel
theorem dX9_ticks_77 : decode cX9_ticks 77 = .ok (.bipush 9, 2) := by decide +kernel
theorem dX9_ticks_79 : decode cX9_ticks 79 = .ok (.dup2, 1) := by decide +kernel
theorem dX9_ticks_80 : decode cX9_ticks 80 = .ok (.iaload, 1) := by decide +kernel
theorem dX9_ticks_81 : decode cX9_ticks 81 = .ok (.iconst 1, 1) := by decide +kernel
theorem dX9_ticks_82 : decode cX9_ticks 82 = .ok (.iadd, 1) := by decide +kernel
theorem dX9_ticks_83 : decode cX9_ticks 83 = .ok (.iastore, 1) := by decide +kernel
theorem dX9_ticks_84 : decode cX9_ticks 84 = .ok (.goto 46, 3) := by decide +kernel
theorem dX9_ticks_87 : decode cX9_ticks 87 = .ok (.aload_n 0, 1) := by decide +kernel
theorem dX9_ticks_88 : decode cX9_ticks 88 = .ok (.bipush 6, 2) := by decide +kernel
theorem dX9_ticks_90 : decode cX9_ticks 90 = .ok (.invokevirtual 61, 3) := by decide +kernel
theorem dX9_ticks_93 : decode cX9_ticks 93 = .ok (.ifCond .le 37, 3) := by decide +kernel
theorem dX9_ticks_96 : decode cX9_ticks 96 = .ok (.aload_n 0, 1) := by decide +kernel
theorem dX9_ticks_97 : decode cX9_ticks 97 = .ok (.getfield 7, 3) := by decide +kernel
theorem dX9_ticks_100 : decode cX9_ticks 100 = .ok (.sipush 254, 3) := by decide +kernel
theorem dX9_ticks_103 : decode cX9_ticks 103 = .ok (.dup2, 1) := by decide +kernel
theorem dX9_ticks_104 : decode cX9_ticks 104 = .ok (.iaload, 1) := by decide +kernel
theorem dX9_ticks_105 : decode cX9_ticks 105 = .ok (.iconst 1, 1) := by decide +kernel
theorem dX9_ticks_106 : decode cX9_ticks 106 = .ok (.isub, 1) := by decide +kernel
theorem dX9_ticks_107 : decode cX9_ticks 107 = .ok (.iastore, 1) := by decide +kernel
theorem dX9_ticks_108 : decode cX9_ticks 108 = .ok (.aload_n 0, 1) := by decide +kernel
theorem dX9_ticks_109 : decode cX9_ticks 109 = .ok (.getfield 7, 3) := by decide +kernel
theorem dX9_ticks_112 : decode cX9_ticks 112 = .ok (.sipush 255, 3) := by decide +kernel
theorem dX9_ticks_115 : decode cX9_ticks 115 = .ok (.iconst 1, 1) := by decide +kernel
theorem dX9_ticks_116 : decode cX9_ticks 116 = .ok (.iastore, 1) := by decide +kernel
theorem dX9_ticks_117 : decode cX9_ticks 117 = .ok (.aload_n 0, 1) := by decide +kernel
theorem dX9_ticks_118 : decode cX9_ticks 118 = .ok (.bipush 6, 2) := by decide +kernel
theorem dX9_ticks_120 : decode cX9_ticks 120 = .ok (.invokevirtual 61, 3) := by decide +kernel
theorem dX9_ticks_123 : decode cX9_ticks 123 = .ok (.ifCond .ne 7, 3) := by decide +kernel
theorem dX9_ticks_126 : decode cX9_ticks 126 = .ok (.aload_n 0, 1) := by decide +kernel
theorem dX9_ticks_127 : decode cX9_ticks 127 = .ok (.invokevirtual 98, 3) := by decide +kernel
theorem dX9_ticks_130 : decode cX9_ticks 130 = .ok (.return_, 1) := by decide +kernel
theorem dX9_goes_0 : decode cX9_goes 0 = .ok (.aload_n 0, 1) := by decide +kernel
theorem dX9_goes_1 : decode cX9_goes 1 = .ok (.getfield 7, 3) := by decide +kernel
theorem dX9_goes_4 : decode cX9_goes 4 = .ok (.iconst 3, 1) := by decide +kernel
theorem dX9_goes_5 : decode cX9_goes 5 = .ok (.iaload, 1) := by decide +kernel
theorem dX9_goes_6 : decode cX9_goes 6 = .ok (.istore_n 2, 1) := by decide +kernel
theorem dX9_goes_7 : decode cX9_goes 7 = .ok (.iconst 0, 1) := by decide +kernel
theorem dX9_goes_8 : decode cX9_goes 8 = .ok (.istore_n 3, 1) := by decide +kernel
theorem dX9_goes_9 : decode cX9_goes 9 = .ok (.iload_n 3, 1) := by decide +kernel
theorem dX9_goes_10 : decode cX9_goes 10 = .ok (.iload_n 1, 1) := by decide +kernel
theorem dX9_goes_11 : decode cX9_goes 11 = .ok (.if_icmp .ge 13, 3) := by decide +kernel
theorem dX9_goes_14 : decode cX9_goes 14 = .ok (.aload_n 0, 1) := by decide +kernel
theorem dX9_goes_15 : decode cX9_goes 15 = .ok (.invokevirtual 101, 3) := by decide +kernel
theorem dX9_goes_18 : decode cX9_goes 18 = .ok (.iinc 3 1, 3) := by decide +kernel
theorem dX9_goes_21 : decode cX9_goes 21 = .ok (.goto (-12), 3) := by decide +kernel
theorem dX9_goes_24 : decode cX9_goes 24 = .ok (.aload_n 0, 1) := by decide +kernel
theorem dX9_goes_25 : decode cX9_goes 25 = .ok (.getfield 7, 3) := by decide +kernel
theorem dX9_goes_28 : decode cX9_goes 28 = .ok (.iconst 3, 1) := by decide +kernel
theorem dX9_goes_29 : decode cX9_goes 29 = .ok (.iaload, 1) := by decide +kernel
theorem dX9_goes_30 : decode cX9_goes 30 = .ok (.iload_n 2, 1) := by decide +kernel
theorem dX9_goes_31 : decode cX9_goes 31 = .ok (.isub, 1) := by decide +kernel
theorem dX9_goes_32 : decode cX9_goes 32 = .ok (.ireturn, 1) := by decide +kernel
theorem dX9_tears_0 : decode cX9_tears 0 = .ok (.aload_n 0, 1) := by decide +kernel
theorem dX9_tears_1 : decode cX9_tears 1 = .ok (.iload_n 1, 1) := by decide +kernel
theorem dX9_tears_2 : decode cX9_tears 2 = .ok (.iload_n 2, 1) := by decide +kernel
theorem dX9_tears_3 : decode cX9_tears 3 = .ok (.invokevirtual 40, 3) := by decide +kernel
theorem dX9_tears_6 : decode cX9_tears 6 = .ok (.istore_n 3, 1) := by decide +kernel
theorem dX9_tears_7 : decode cX9_tears 7 = .ok (.aload_n 0, 1) := by decide +kernel
theorem dX9_tears_8 : decode cX9_tears 8 = .ok (.getfield 7, 3) := by decide +kernel
theorem dX9_tears_11 : decode cX9_tears 11 = .ok (.iload_n 3, 1) := by decide +kernel
theorem dX9_tears_12 : decode cX9_tears 12 = .ok (.iconst 3, 1) := by decide +kernel
theorem dX9_tears_13 : decode cX9_tears 13 = .ok (.iastore, 1) := by decide +kernel
theorem dX9_tears_14 : decode cX9_tears 14 = .ok (.aload_n 0, 1) := by decide +kernel
theorem dX9_tears_15 : decode cX9_tears 15 = .ok (.getfield 7, 3) := by decide +kernel
theorem dX9_tears_18 : decode cX9_tears 18 = .ok (.iload_n 3, 1) := by decide +kernel
theorem dX9_tears_19 : decode cX9_tears 19 = .ok (.iconst 1, 1) := by decide +kernel
theorem dX9_tears_20 : decode cX9_tears 20 = .ok (.iadd, 1) := by decide +kernel
theorem dX9_tears_21 : decode cX9_tears 21 = .ok (.iconst 0, 1) := by decide +kernel
theorem dX9_tears_22 : decode cX9_tears 22 = .ok (.iastore, 1) := by decide +kernel
theorem dX9_tears_23 : decode cX9_tears 23 = .ok (.aload_n 0, 1) := by decide +kernel
theorem dX9_tears_24 : decode cX9_tears 24 = .ok (.getfield 7, 3) := by decide +kernel
theorem dX9_tears_27 : decode cX9_tears 27 = .ok (.iload_n 3, 1) := by decide +kernel
theorem dX9_tears_28 : decode cX9_tears 28 = .ok (.iconst 2, 1) := by decide +kernel
theorem dX9_tears_29 : decode cX9_tears 29 = .ok (.iadd, 1) := by decide +kernel
theorem dX9_tears_30 : decode cX9_tears 30 = .ok (.iconst 0, 1) := by decide +kernel
theorem dX9_tears_31 : decode cX9_tears 31 = .ok (.iastore, 1) := by decide +kernel
theorem dX9_tears_32 : decode cX9_tears 32 = .ok (.aload_n 0, 1) := by decide +kernel
theorem dX9_tears_33 : decode cX9_tears 33 = .ok (.getfield 7, 3) := by decide +kernel
theorem dX9_tears_36 : decode cX9_tears 36 = .ok (.iload_n 3, 1) := by decide +kernel
theorem dX9_tears_37 : decode cX9_tears 37 = .ok (.iconst 3, 1) := by decide +kernel
theorem dX9_tears_38 : decode cX9_tears 38 = .ok (.iadd, 1) := by decide +kernel
theorem dX9_tears_39 : decode cX9_tears 39 = .ok (.iconst 0, 1) := by decide +kernel
theorem dX9_tears_40 : decode cX9_tears 40 = .ok (.iastore, 1) := by decide +kernel
theorem dX9_tears_41 : decode cX9_tears 41 = .ok (.return_, 1) := by decide +kernel
theorem dX9_breaks_0 : decode cX9_breaks 0 = .ok (.iconst 0, 1) := by decide +kernel
theorem dX9_breaks_1 : decode cX9_breaks 1 = .ok (.istore_n 1, 1) := by decide +kernel
theorem dX9_breaks_2 : decode cX9_breaks 2 = .ok (.iload_n 1, 1) := by decide +kernel
theorem dX9_breaks_3 : decode cX9_breaks 3 = .ok (.bipush 12, 2) := by decide +kernel
theorem dX9_breaks_5 : decode cX9_breaks 5 = .ok (.if_icmp .ge 20, 3) := by decide +kernel
theorem dX9_breaks_8 : decode cX9_breaks 8 = .ok (.aload_n 0, 1) := by decide +kernel
theorem dX9_breaks_9 : decode cX9_breaks 9 = .ok (.getfield 22, 3) := by decide +kernel
theorem dX9_breaks_12 : decode cX9_breaks 12 = .ok (.iload_n 1, 1) := by decide +kernel
theorem dX9_breaks_13 : decode cX9_breaks 13 = .ok (.aload_n 0, 1) := by decide +kernel
theorem dX9_breaks_14 : decode cX9_breaks 14 = .ok (.iload_n 1, 1) := by decide +kernel
theorem dX9_breaks_15 : decode cX9_breaks 15 = .ok (.invokevirtual 58, 3) := by decide +kernel
theorem dX9_breaks_18 : decode cX9_breaks 18 = .ok (.iastore, 1) := by decide +kernel
theorem dX9_breaks_19 : decode cX9_breaks 19 = .ok (.iinc 1 1, 3) := by decide +kernel
theorem dX9_breaks_22 : decode cX9_breaks 22 = .ok (.goto (-20), 3) := by decide +kernel
theorem dX9_breaks_25 : decode cX9_breaks 25 = .ok (.aload_n 0, 1) := by decide +kernel
theorem dX9_breaks_26 : decode cX9_breaks 26 = .ok (.getfield 7, 3) := by decide +kernel
theorem dX9_breaks_29 : decode cX9_breaks 29 = .ok (.iconst 4, 1) := by decide +kernel
theorem dX9_breaks_30 : decode cX9_breaks 30 = .ok (.dup2, 1) := by decide +kernel
theorem dX9_breaks_31 : decode cX9_breaks 31 = .ok (.iaload, 1) := by decide +kernel
theorem dX9_breaks_32 : decode cX9_breaks 32 = .ok (.aload_n 0, 1) := by decide +kernel
theorem dX9_breaks_33 : decode cX9_breaks 33 = .ok (.getfield 7, 3) := by decide +kernel
theorem dX9_breaks_36 : decode cX9_breaks 36 = .ok (.bipush 11, 2) := by decide +kernel
theorem dX9_breaks_38 : decode cX9_breaks 38 = .ok (.iaload, 1) := by decide +kernel
theorem dX9_breaks_39 : decode cX9_breaks 39 = .ok (.aload_n 0, 1) := by decide +kernel
theorem dX9_breaks_40 : decode cX9_breaks 40 = .ok (.invokevirtual 77, 3) := by decide +kernel
theorem dX9_breaks_43 : decode cX9_breaks 43 = .ok (.ifCond .eq 7, 3) := by decide +kernel
theorem dX9_breaks_46 : decode cX9_breaks 46 = .ok (.iconst 1, 1) := by decide +kernel
theorem dX9_breaks_47 : decode cX9_breaks 47 = .ok (.goto 4, 3) := by decide +kernel
theorem dX9_breaks_50 : decode cX9_breaks 50 = .ok (.iconst 0, 1) := by decide +kernel
theorem dX9_breaks_51 : decode cX9_breaks 51 = .ok (.iadd, 1) := by decide +kernel
theorem dX9_breaks_52 : decode cX9_breaks 52 = .ok (.iadd, 1) := by decide +kernel
theorem dX9_breaks_53 : decode cX9_breaks 53 = .ok (.iastore, 1) := by decide +kernel
theorem dX9_breaks_54 : decode cX9_breaks 54 = .ok (.aload_n 0, 1) := by decide +kernel
theorem dX9_breaks_55 : decode cX9_breaks 55 = .ok (.invokevirtual 77, 3) := by decide +kernel
theorem dX9_breaks_58 : decode cX9_breaks 58 = .ok (.ifCond .eq 73, 3) := by decide +kernel
theorem dX9_breaks_61 : decode cX9_breaks 61 = .ok (.aload_n 0, 1) := by decide +kernel
theorem dX9_breaks_62 : decode cX9_breaks 62 = .ok (.getfield 7, 3) := by decide +kernel
theorem dX9_breaks_65 : decode cX9_breaks 65 = .ok (.iconst 2, 1) := by decide +kernel
theorem dX9_breaks_66 : decode cX9_breaks 66 = .ok (.iaload, 1) := by decide +kernel
theorem dX9_breaks_67 : decode cX9_breaks 67 = .ok (.istore_n 1, 1) := by decide +kernel
theorem dX9_breaks_68 : decode cX9_breaks 68 = .ok (.aload_n 0, 1) := by decide +kernel
theorem dX9_breaks_69 : decode cX9_breaks 69 = .ok (.iconst 0, 1) := by decide +kernel
theorem dX9_breaks_70 : decode cX9_breaks 70 = .ok (.invokevirtual 61, 3) := by decide +kernel
theorem dX9_breaks_73 : decode cX9_breaks 73 = .ok (.invokestatic 64, 3) := by decide +kernel
theorem dX9_breaks_76 : decode cX9_breaks 76 = .ok (.istore_n 2, 1) := by decide +kernel
theorem dX9_breaks_77 : decode cX9_breaks 77 = .ok (.aload_n 0, 1) := by decide +kernel
theorem dX9_breaks_78 : decode cX9_breaks 78 = .ok (.iload_n 1, 1) := by decide +kernel
theorem dX9_breaks_79 : decode cX9_breaks 79 = .ok (.aload_n 0, 1) := by decide +kernel
theorem dX9_breaks_80 : decode cX9_breaks 80 = .ok (.iconst 0, 1) := by decide +kernel
theorem dX9_breaks_81 : decode cX9_breaks 81 = .ok (.invokevirtual 61, 3) := by decide +kernel
theorem dX9_breaks_84 : decode cX9_breaks 84 = .ok (.invokevirtual 104, 3) := by decide +kernel
theorem dX9_breaks_87 : decode cX9_breaks 87 = .ok (.aload_n 0, 1) := by decide +kernel
theorem dX9_breaks_88 : decode cX9_breaks 88 = .ok (.iconst 5, 1) := by decide +kernel
theorem dX9_breaks_89 : decode cX9_breaks 89 = .ok (.invokevirtual 61, 3) := by decide +kernel
theorem dX9_breaks_92 : decode cX9_breaks 92 = .ok (.ifCond .le 9, 3) := by decide +kernel
theorem dX9_breaks_95 : decode cX9_breaks 95 = .ok (.aload_n 0, 1) := by decide +kernel
theorem dX9_breaks_96 : decode cX9_breaks 96 = .ok (.iload_n 1, 1) := by decide +kernel
theorem dX9_breaks_97 : decode cX9_breaks 97 = .ok (.iload_n 2, 1) := by decide +kernel
theorem dX9_breaks_98 : decode cX9_breaks 98 = .ok (.invokevirtual 88, 3) := by decide +kernel
theorem dX9_breaks_101 : decode cX9_breaks 101 = .ok (.aload_n 0, 1) := by decide +kernel
theorem dX9_breaks_102 : decode cX9_breaks 102 = .ok (.iconst 0, 1) := by decide +kernel
theorem dX9_breaks_103 : decode cX9_breaks 103 = .ok (.invokevirtual 61, 3) := by decide +kernel
theorem dX9_breaks_106 : decode cX9_breaks 106 = .ok (.invokestatic 36, 3) := by decide +kernel
theorem dX9_breaks_109 : decode cX9_breaks 109 = .ok (.ifCond .eq 22, 3) := by decide +kernel
theorem dX9_breaks_112 : decode cX9_breaks 112 = .ok (.aload_n 0, 1) := by decide +kernel
theorem dX9_breaks_113 : decode cX9_breaks 113 = .ok (.bipush 7, 2) := by decide +kernel
theorem dX9_breaks_115 : decode cX9_breaks 115 = .ok (.invokevirtual 61, 3) := by decide +kernel
theorem dX9_breaks_118 : decode cX9_breaks 118 = .ok (.iconst 1, 1) := by decide +kernel
theorem dX9_breaks_119 : decode cX9_breaks 119 = .ok (.if_icmp .ne 12, 3) := by decide +kernel
theorem dX9_breaks_122 : decode cX9_breaks 122 = .ok (.aload_n 0, 1) := by decide +kernel
theorem dX9_breaks_123 : decode cX9_breaks 123 = .ok (.iload_n 1, 1) := by decide +kernel
theorem dX9_breaks_124 : decode cX9_breaks 124 = .ok (.iload_n 2, 1) := by decide +kernel
theorem dX9_breaks_125 : decode cX9_breaks 125 = .ok (.invokestatic 67, 3) := by decide +kernel
theorem dX9_breaks_128 : decode cX9_breaks 128 = .ok (.invokevirtual 104, 3) := by decide +kernel
theorem dX9_breaks_131 : decode cX9_breaks 131 = .ok (.aload_n 0, 1) := by decide +kernel
theorem dX9_breaks_132 : decode cX9_breaks 132 = .ok (.invokevirtual 92, 3) := by decide +kernel
theorem dX9_breaks_135 : decode cX9_breaks 135 = .ok (.aload_n 0, 1) := by decide +kernel
theorem dX9_breaks_136 : decode cX9_breaks 136 = .ok (.getfield 7, 3) := by decide +kernel
theorem dX9_breaks_139 : decode cX9_breaks 139 = .ok (.bipush 11, 2) := by decide +kernel
theorem dX9_breaks_141 : decode cX9_breaks 141 = .ok (.iaload, 1) := by decide +kernel
theorem dX9_breaks_142 : decode cX9_breaks 142 = .ok (.ifCond .le 10, 3) := by decide +kernel
theorem dX9_breaks_145 : decode cX9_breaks 145 = .ok (.aload_n 0, 1) := by decide +kernel
theorem dX9_breaks_146 : decode cX9_breaks 146 = .ok (.invokevirtual 70, 3) := by decide +kernel
theorem dX9_breaks_149 : decode cX9_breaks 149 = .ok (.goto (-14), 3) := by decide +kernel
theorem dX9_breaks_152 : decode cX9_breaks 152 = .ok (.aload_n 0, 1) := by decide +kernel
theorem dX9_breaks_153 : decode cX9_breaks 153 = .ok (.getfield 7, 3) := by decide +kernel
theorem dX9_breaks_156 : decode cX9_breaks 156 = .ok (.iconst 1, 1) := by decide +kernel
theorem dX9_breaks_157 : decode cX9_breaks 157 = .ok (.iconst 1, 1) := by decide +kernel
theorem dX9_breaks_158 : decode cX9_breaks 158 = .ok (.iastore, 1) := by decide +kernel
theorem dX9_breaks_159 : decode cX9_breaks 159 = .ok (.aload_n 0, 1) := by decide +kernel
theorem dX9_breaks_160 : decode cX9_breaks 160 = .ok (.getfield 7, 3) := by decide +kernel
theorem dX9_breaks_163 : decode cX9_breaks 163 = .ok (.bipush 8, 2) := by decide +kernel
theorem dX9_breaks_165 : decode cX9_breaks 165 = .ok (.dup2, 1) := by decide +kernel
theorem dX9_breaks_166 : decode cX9_breaks 166 = .ok (.iaload, 1) := by decide +kernel
theorem dX9_breaks_167 : decode cX9_breaks 167 = .ok (.iconst 1, 1) := by decide +kernel
theorem dX9_breaks_168 : decode cX9_breaks 168 = .ok (.iadd, 1) := by decide +kernel
theorem dX9_breaks_169 : decode cX9_breaks 169 = .ok (.iastore, 1) := by decide +kernel
theorem dX9_breaks_170 : decode cX9_breaks 170 = .ok (.iconst 0, 1) := by decide +kernel
theorem dX9_breaks_171 : decode cX9_breaks 171 = .ok (.istore_n 1, 1) := by decide +kernel
theorem dX9_breaks_172 : decode cX9_breaks 172 = .ok (.iconst 0, 1) := by decide +kernel
theorem dX9_breaks_173 : decode cX9_breaks 173 = .ok (.istore_n 2, 1) := by decide +kernel
theorem dX9_breaks_174 : decode cX9_breaks 174 = .ok (.iload_n 2, 1) := by decide +kernel
theorem dX9_breaks_175 : decode cX9_breaks 175 = .ok (.bipush 12, 2) := by decide +kernel
theorem dX9_breaks_177 : decode cX9_breaks 177 = .ok (.if_icmp .ge 42, 3) := by decide +kernel
theorem dX9_breaks_180 : decode cX9_breaks 180 = .ok (.iload_n 1, 1) := by decide +kernel
theorem dX9_breaks_181 : decode cX9_breaks 181 = .ok (.aload_n 0, 1) := by decide +kernel
theorem dX9_breaks_182 : decode cX9_breaks 182 = .ok (.getfield 22, 3) := by decide +kernel
theorem dX9_breaks_185 : decode cX9_breaks 185 = .ok (.iload_n 2, 1) := by decide +kernel
theorem dX9_breaks_186 : decode cX9_breaks 186 = .ok (.iaload, 1) := by decide +kernel
theorem dX9_breaks_187 : decode cX9_breaks 187 = .ok (.ifCond .le 23, 3) := by decide +kernel
theorem dX9_breaks_190 : decode cX9_breaks 190 = .ok (.aload_n 0, 1) := by decide +kernel
theorem dX9_breaks_191 : decode cX9_breaks 191 = .ok (.iload_n 2, 1) := by decide +kernel
theorem dX9_breaks_192 : decode cX9_breaks 192 = .ok (.invokevirtual 58, 3) := by decide +kernel
theorem dX9_breaks_195 : decode cX9_breaks 195 = .ok (.aload_n 0, 1) := by decide +kernel
theorem dX9_breaks_196 : decode cX9_breaks 196 = .ok (.getfield 22, 3) := by decide +kernel
theorem dX9_breaks_199 : decode cX9_breaks 199 = .ok (.iload_n 2, 1) := by decide +kernel
theorem dX9_breaks_200 : decode cX9_breaks 200 = .ok (.iaload, 1) := by decide +kernel
theorem dX9_breaks_201 : decode cX9_breaks 201 = .ok (.if_icmp .eq 9, 3) := by decide +kernel
theorem dX9_breaks_204 : decode cX9_breaks 204 = .ok (.iconst 1, 1) := by decide +kernel
theorem dX9_breaks_205 : decode cX9_breaks 205 = .ok (.iload_n 2, 1) := by decide +kernel
theorem dX9_breaks_206 : decode cX9_breaks 206 = .ok (.ishl, 1) := by decide +kernel
theorem dX9_breaks_207 : decode cX9_breaks 207 = .ok (.goto 4, 3) := by decide +kernel
theorem dX9_breaks_210 : decode cX9_breaks 210 = .ok (.iconst 0, 1) := by decide +kernel
theorem dX9_breaks_211 : decode cX9_breaks 211 = .ok (.ior, 1) := by decide +kernel
theorem dX9_breaks_212 : decode cX9_breaks 212 = .ok (.istore_n 1, 1) := by decide +kernel
theorem dX9_breaks_213 : decode cX9_breaks 213 = .ok (.iinc 2 1, 3) := by decide +kernel
theorem dX9_breaks_216 : decode cX9_breaks 216 = .ok (.goto (-42), 3) := by decide +kernel
theorem dX9_breaks_219 : decode cX9_breaks 219 = .ok (.iload_n 1, 1) := by decide +kernel
theorem dX9_breaks_220 : decode cX9_breaks 220 = .ok (.ireturn, 1) := by decide +kernel
theorem dX9_ones_0 : decode cX9_ones 0 = .ok (.iconst 0, 1) := by decide +kernel
theorem dX9_ones_1 : decode cX9_ones 1 = .ok (.istore_n 1, 1) := by decide +kernel
theorem dX9_ones_2 : decode cX9_ones 2 = .ok (.iconst 0, 1) := by decide +kernel
theorem dX9_ones_3 : decode cX9_ones 3 = .ok (.istore_n 2, 1) := by decide +kernel
theorem dX9_ones_4 : decode cX9_ones 4 = .ok (.iload_n 2, 1) := by decide +kernel
theorem dX9_ones_5 : decode cX9_ones 5 = .ok (.bipush 12, 2) := by decide +kernel
theorem dX9_ones_7 : decode cX9_ones 7 = .ok (.if_icmp .ge 17, 3) := by decide +kernel
theorem dX9_ones_10 : decode cX9_ones 10 = .ok (.iload_n 1, 1) := by decide +kernel
theorem dX9_ones_11 : decode cX9_ones 11 = .ok (.iload_n 0, 1) := by decide +kernel
theorem dX9_ones_12 : decode cX9_ones 12 = .ok (.iload_n 2, 1) := by decide +kernel
theorem dX9_ones_13 : decode cX9_ones 13 = .ok (.ishr, 1) := by decide +kernel
theorem dX9_ones_14 : decode cX9_ones 14 = .ok (.iconst 1, 1) := by decide +kernel
theorem dX9_ones_15 : decode cX9_ones 15 = .ok (.iand, 1) := by decide +kernel
theorem dX9_ones_16 : decode cX9_ones 16 = .ok (.iadd, 1) := by decide +kernel
theorem dX9_ones_17 : decode cX9_ones 17 = .ok (.istore_n 1, 1) := by decide +kernel
theorem dX9_ones_18 : decode cX9_ones 18 = .ok (.iinc 2 1, 3) := by decide +kernel
theorem dX9_ones_21 : decode cX9_ones 21 = .ok (.goto (-17), 3) := by decide +kernel
theorem dX9_ones_24 : decode cX9_ones 24 = .ok (.iload_n 1, 1) := by decide +kernel
theorem dX9_ones_25 : decode cX9_ones 25 = .ok (.ireturn, 1) := by decide +kernel
theorem dX9_turnsOff_0 : decode cX9_turnsOff 0 = .ok (.aload_n 0, 1) := by decide +kernel
theorem dX9_turnsOff_1 : decode cX9_turnsOff 1 = .ok (.invokevirtual 107, 3) := by decide +kernel
theorem dX9_turnsOff_4 : decode cX9_turnsOff 4 = .ok (.ifCond .eq 6, 3) := by decide +kernel
theorem dX9_turnsOff_7 : decode cX9_turnsOff 7 = .ok (.bipush (-2), 2) := by decide +kernel
theorem dX9_turnsOff_9 : decode cX9_turnsOff 9 = .ok (.ireturn, 1) := by decide +kernel
theorem dX9_turnsOff_10 : decode cX9_turnsOff 10 = .ok (.aload_n 0, 1) := by decide +kernel
theorem dX9_turnsOff_11 : decode cX9_turnsOff 11 = .ok (.invokevirtual 110, 3) := by decide +kernel
theorem dX9_turnsOff_14 : decode cX9_turnsOff 14 = .ok (.invokestatic 113, 3) := by decide +kernel
theorem dX9_turnsOff_17 : decode cX9_turnsOff 17 = .ok (.istore_n 1, 1) := by decide +kernel
theorem dX9_turnsOff_18 : decode cX9_turnsOff 18 = .ok (.aload_n 0, 1) := by decide +kernel
theorem dX9_turnsOff_19 : decode cX9_turnsOff 19 = .ok (.getfield 7, 3) := by decide +kernel
theorem dX9_turnsOff_22 : decode cX9_turnsOff 22 = .ok (.iconst 5, 1) := by decide +kernel
theorem dX9_turnsOff_23 : decode cX9_turnsOff 23 = .ok (.dup2, 1) := by decide +kernel
theorem dX9_turnsOff_24 : decode cX9_turnsOff 24 = .ok (.iaload, 1) := by decide +kernel
theorem dX9_turnsOff_25 : decode cX9_turnsOff 25 = .ok (.iload_n 1, 1) := by decide +kernel
theorem dX9_turnsOff_26 : decode cX9_turnsOff 26 = .ok (.iadd, 1) := by decide +kernel
theorem dX9_turnsOff_27 : decode cX9_turnsOff 27 = .ok (.iastore, 1) := by decide +kernel
theorem dX9_turnsOff_28 : decode cX9_turnsOff 28 = .ok (.iload_n 1, 1) := by decide +kernel
theorem dX9_turnsOff_29 : decode cX9_turnsOff 29 = .ok (.ireturn, 1) := by decide +kernel
theorem dX9_isPlace_0 : decode cX9_isPlace 0 = .ok (.aload_n 0, 1) := by decide +kernel
theorem dX9_isPlace_1 : decode cX9_isPlace 1 = .ok (.getfield 7, 3) := by decide +kernel
theorem dX9_isPlace_4 : decode cX9_isPlace 4 = .ok (.aload_n 0, 1) := by decide +kernel
theorem dX9_isPlace_5 : decode cX9_isPlace 5 = .ok (.iload_n 1, 1) := by decide +kernel
theorem dX9_isPlace_6 : decode cX9_isPlace 6 = .ok (.invokevirtual 44, 3) := by decide +kernel
theorem dX9_isPlace_9 : decode cX9_isPlace 9 = .ok (.iaload, 1) := by decide +kernel
theorem dX9_isPlace_10 : decode cX9_isPlace 10 = .ok (.iconst 2, 1) := by decide +kernel
theorem dX9_isPlace_11 : decode cX9_isPlace 11 = .ok (.if_icmp .ne 27, 3) := by decide +kernel
theorem dX9_isPlace_14 : decode cX9_isPlace 14 = .ok (.aload_n 0, 1) := by decide +kernel
theorem dX9_isPlace_15 : decode cX9_isPlace 15 = .ok (.aload_n 0, 1) := by decide +kernel
theorem dX9_isPlace_16 : decode cX9_isPlace 16 = .ok (.getfield 7, 3) := by decide +kernel
theorem dX9_isPlace_19 : decode cX9_isPlace 19 = .ok (.aload_n 0, 1) := by decide +kernel
theorem dX9_isPlace_20 : decode cX9_isPlace 20 = .ok (.iload_n 1, 1) := by decide +kernel
theorem dX9_isPlace_21 : decode cX9_isPlace 21 = .ok (.invokevirtual 44, 3) := by decide +kernel
theorem dX9_isPlace_24 : decode cX9_isPlace 24 = .ok (.iconst 1, 1) := by decide +kernel
theorem dX9_isPlace_25 : decode cX9_isPlace 25 = .ok (.iadd, 1) := by decide +kernel
theorem dX9_isPlace_26 : decode cX9_isPlace 26 = .ok (.iaload, 1) := by decide +kernel
theorem dX9_isPlace_27 : decode cX9_isPlace 27 = .ok (.invokevirtual 51, 3) := by decide +kernel
theorem dX9_isPlace_30 : decode cX9_isPlace 30 = .ok (.iload_n 1, 1) := by decide +kernel
theorem dX9_isPlace_31 : decode cX9_isPlace 31 = .ok (.if_icmp .ne 7, 3) := by decide +kernel
theorem dX9_isPlace_34 : decode cX9_isPlace 34 = .ok (.iconst 1, 1) := by decide +kernel
theorem dX9_isPlace_35 : decode cX9_isPlace 35 = .ok (.goto 4, 3) := by decide +kernel
theorem dX9_isPlace_38 : decode cX9_isPlace 38 = .ok (.iconst 0, 1) := by decide +kernel
theorem dX9_isPlace_39 : decode cX9_isPlace 39 = .ok (.ireturn, 1) := by decide +kernel
theorem dX9_turnsOn_0 : decode cX9_turnsOn 0 = .ok (.aload_n 0, 1) := by decide +kernel
theorem dX9_turnsOn_1 : decode cX9_turnsOn 1 = .ok (.invokevirtual 107, 3) := by decide +kernel
theorem dX9_turnsOn_4 : decode cX9_turnsOn 4 = .ok (.ifCond .ne 6, 3) := by decide +kernel
theorem dX9_turnsOn_7 : decode cX9_turnsOn 7 = .ok (.bipush (-2), 2) := by decide +kernel
theorem dX9_turnsOn_9 : decode cX9_turnsOn 9 = .ok (.ireturn, 1) := by decide +kernel
theorem dX9_turnsOn_10 : decode cX9_turnsOn 10 = .ok (.aload_n 0, 1) := by decide +kernel
theorem dX9_turnsOn_11 : decode cX9_turnsOn 11 = .ok (.getfield 7, 3) := by decide +kernel
theorem dX9_turnsOn_14 : decode cX9_turnsOn 14 = .ok (.iconst 1, 1) := by decide +kernel
theorem dX9_turnsOn_15 : decode cX9_turnsOn 15 = .ok (.iconst 0, 1) := by decide +kernel
theorem dX9_turnsOn_16 : decode cX9_turnsOn 16 = .ok (.iastore, 1) := by decide +kernel
theorem dX9_turnsOn_17 : decode cX9_turnsOn 17 = .ok (.iconst 0, 1) := by decide +kernel
theorem dX9_turnsOn_18 : decode cX9_turnsOn 18 = .ok (.istore_n 1, 1) := by decide +kernel
theorem dX9_turnsOn_19 : decode cX9_turnsOn 19 = .ok (.iload_n 1, 1) := by decide +kernel
theorem dX9_turnsOn_20 : decode cX9_turnsOn 20 = .ok (.bipush 48, 2) := by decide +kernel
theorem dX9_turnsOn_22 : decode cX9_turnsOn 22 = .ok (.if_icmp .ge 44, 3) := by decide +kernel
theorem dX9_turnsOn_25 : decode cX9_turnsOn 25 = .ok (.iload_n 1, 1) := by decide +kernel
theorem dX9_turnsOn_26 : decode cX9_turnsOn 26 = .ok (.bipush 24, 2) := by decide +kernel
theorem dX9_turnsOn_28 : decode cX9_turnsOn 28 = .ok (.irem, 1) := by decide +kernel
theorem dX9_turnsOn_29 : decode cX9_turnsOn 29 = .ok (.bipush 16, 2) := by decide +kernel
theorem dX9_turnsOn_31 : decode cX9_turnsOn 31 = .ok (.if_icmp .lt 29, 3) := by decide +kernel
theorem dX9_turnsOn_34 : decode cX9_turnsOn 34 = .ok (.aload_n 0, 1) := by decide +kernel
theorem dX9_turnsOn_35 : decode cX9_turnsOn 35 = .ok (.getfield 7, 3) := by decide +kernel
theorem dX9_turnsOn_38 : decode cX9_turnsOn 38 = .ok (.bipush 11, 2) := by decide +kernel
theorem dX9_turnsOn_40 : decode cX9_turnsOn 40 = .ok (.iaload, 1) := by decide +kernel
theorem dX9_turnsOn_41 : decode cX9_turnsOn 41 = .ok (.bipush 8, 2) := by decide +kernel
theorem dX9_turnsOn_43 : decode cX9_turnsOn 43 = .ok (.if_icmp .ge 17, 3) := by decide +kernel
theorem dX9_turnsOn_46 : decode cX9_turnsOn 46 = .ok (.aload_n 0, 1) := by decide +kernel
theorem dX9_turnsOn_47 : decode cX9_turnsOn 47 = .ok (.iload_n 1, 1) := by decide +kernel
theorem dX9_turnsOn_48 : decode cX9_turnsOn 48 = .ok (.invokevirtual 116, 3) := by decide +kernel
theorem dX9_turnsOn_51 : decode cX9_turnsOn 51 = .ok (.ifCond .eq 9, 3) := by decide +kernel
theorem dX9_turnsOn_54 : decode cX9_turnsOn 54 = .ok (.aload_n 0, 1) := by decide +kernel
theorem dX9_turnsOn_55 : decode cX9_turnsOn 55 = .ok (.iload_n 1, 1) := by decide +kernel
theorem dX9_turnsOn_56 : decode cX9_turnsOn 56 = .ok (.iconst 0, 1) := by decide +kernel
theorem dX9_turnsOn_57 : decode cX9_turnsOn 57 = .ok (.invokevirtual 119, 3) := by decide +kernel
theorem dX9_turnsOn_60 : decode cX9_turnsOn 60 = .ok (.iinc 1 1, 3) := by decide +kernel
theorem dX9_turnsOn_63 : decode cX9_turnsOn 63 = .ok (.goto (-44), 3) := by decide +kernel
theorem dX9_turnsOn_66 : decode cX9_turnsOn 66 = .ok (.aload_n 0, 1) := by decide +kernel
theorem dX9_turnsOn_67 : decode cX9_turnsOn 67 = .ok (.getfield 7, 3) := by decide +kernel
theorem dX9_turnsOn_70 : decode cX9_turnsOn 70 = .ok (.bipush 11, 2) := by decide +kernel
theorem dX9_turnsOn_72 : decode cX9_turnsOn 72 = .ok (.iaload, 1) := by decide +kernel
theorem dX9_turnsOn_73 : decode cX9_turnsOn 73 = .ok (.ireturn, 1) := by decide +kernel
theorem dX9_asks_0 : decode cX9_asks 0 = .ok (.iload_n 1, 1) := by decide +kernel
theorem dX9_asks_1 : decode cX9_asks 1 = .ok (.iconst 0, 1) := by decide +kernel
theorem dX9_asks_2 : decode cX9_asks 2 = .ok (.bipush 11, 2) := by decide +kernel
theorem dX9_asks_4 : decode cX9_asks 4 = .ok (.invokestatic 32, 3) := by decide +kernel
theorem dX9_asks_7 : decode cX9_asks 7 = .ok (.ifCond .eq 23, 3) := by decide +kernel
theorem dX9_asks_10 : decode cX9_asks 10 = .ok (.iload_n 2, 1) := by decide +kernel
theorem dX9_asks_11 : decode cX9_asks 11 = .ok (.iconst 0, 1) := by decide +kernel
theorem dX9_asks_12 : decode cX9_asks 12 = .ok (.sipush 999, 3) := by decide +kernel
theorem dX9_asks_15 : decode cX9_asks 15 = .ok (.invokestatic 32, 3) := by decide +kernel
theorem dX9_asks_18 : decode cX9_asks 18 = .ok (.ifCond .eq 12, 3) := by decide +kernel
theorem dX9_asks_21 : decode cX9_asks 21 = .ok (.iload_n 3, 1) := by decide +kernel
theorem dX9_asks_22 : decode cX9_asks 22 = .ok (.iconst 0, 1) := by decide +kernel
theorem dX9_asks_23 : decode cX9_asks 23 = .ok (.iconst 1, 1) := by decide +kernel
theorem dX9_asks_24 : decode cX9_asks 24 = .ok (.invokestatic 32, 3) := by decide +kernel
theorem dX9_asks_27 : decode cX9_asks 27 = .ok (.ifCond .ne 5, 3) := by decide +kernel
theorem dX9_asks_30 : decode cX9_asks 30 = .ok (.iconst (-1), 1) := by decide +kernel
theorem dX9_asks_31 : decode cX9_asks 31 = .ok (.ireturn, 1) := by decide +kernel
theorem dX9_asks_32 : decode cX9_asks 32 = .ok (.aload_n 0, 1) := by decide +kernel
theorem dX9_asks_33 : decode cX9_asks 33 = .ok (.invokevirtual 107, 3) := by decide +kernel
theorem dX9_asks_36 : decode cX9_asks 36 = .ok (.ifCond .eq 6, 3) := by decide +kernel
theorem dX9_asks_39 : decode cX9_asks 39 = .ok (.bipush (-2), 2) := by decide +kernel
theorem dX9_asks_41 : decode cX9_asks 41 = .ok (.ireturn, 1) := by decide +kernel
theorem dX9_asks_42 : decode cX9_asks 42 = .ok (.aload_n 0, 1) := by decide +kernel
theorem dX9_asks_43 : decode cX9_asks 43 = .ok (.getfield 7, 3) := by decide +kernel
theorem dX9_asks_46 : decode cX9_asks 46 = .ok (.bipush 11, 2) := by decide +kernel
theorem dX9_asks_48 : decode cX9_asks 48 = .ok (.iaload, 1) := by decide +kernel
theorem dX9_asks_49 : decode cX9_asks 49 = .ok (.bipush 8, 2) := by decide +kernel
theorem dX9_asks_51 : decode cX9_asks 51 = .ok (.if_icmp .ne 6, 3) := by decide +kernel
theorem dX9_asks_54 : decode cX9_asks 54 = .ok (.bipush (-3), 2) := by decide +kernel
theorem dX9_asks_56 : decode cX9_asks 56 = .ok (.ireturn, 1) := by decide +kernel
theorem dX9_asks_57 : decode cX9_asks 57 = .ok (.aload_n 0, 1) := by decide +kernel
theorem dX9_asks_58 : decode cX9_asks 58 = .ok (.iload_n 1, 1) := by decide +kernel
theorem dX9_asks_59 : decode cX9_asks 59 = .ok (.iload_n 2, 1) := by decide +kernel
theorem dX9_asks_60 : decode cX9_asks 60 = .ok (.iconst 2, 1) := by decide +kernel
theorem dX9_asks_61 : decode cX9_asks 61 = .ok (.iload_n 3, 1) := by decide +kernel
theorem dX9_asks_62 : decode cX9_asks 62 = .ok (.isub, 1) := by decide +kernel
theorem dX9_asks_63 : decode cX9_asks 63 = .ok (.iconst 0, 1) := by decide +kernel
theorem dX9_asks_64 : decode cX9_asks 64 = .ok (.invokevirtual 54, 3) := by decide +kernel
theorem dX9_asks_67 : decode cX9_asks 67 = .ok (.aload_n 0, 1) := by decide +kernel
theorem dX9_asks_68 : decode cX9_asks 68 = .ok (.getfield 7, 3) := by decide +kernel
theorem dX9_asks_71 : decode cX9_asks 71 = .ok (.bipush 11, 2) := by decide +kernel
theorem dX9_asks_73 : decode cX9_asks 73 = .ok (.iaload, 1) := by decide +kernel
theorem dX9_asks_74 : decode cX9_asks 74 = .ok (.ireturn, 1) := by decide +kernel
theorem dX9_lets_0 : decode cX9_lets 0 = .ok (.iload_n 1, 1) := by decide +kernel
theorem dX9_lets_1 : decode cX9_lets 1 = .ok (.iconst 1, 1) := by decide +kernel
theorem dX9_lets_2 : decode cX9_lets 2 = .ok (.sipush 200, 3) := by decide +kernel
theorem dX9_lets_5 : decode cX9_lets 5 = .ok (.invokestatic 32, 3) := by decide +kernel
theorem dX9_lets_8 : decode cX9_lets 8 = .ok (.ifCond .ne 5, 3) := by decide +kernel
theorem dX9_lets_11 : decode cX9_lets 11 = .ok (.iconst (-1), 1) := by decide +kernel
theorem dX9_lets_12 : decode cX9_lets 12 = .ok (.ireturn, 1) := by decide +kernel
theorem dX9_lets_13 : decode cX9_lets 13 = .ok (.aload_n 0, 1) := by decide +kernel
theorem dX9_lets_14 : decode cX9_lets 14 = .ok (.invokevirtual 107, 3) := by decide +kernel
theorem dX9_lets_17 : decode cX9_lets 17 = .ok (.ifCond .eq 8, 3) := by decide +kernel
theorem dX9_lets_20 : decode cX9_lets 20 = .ok (.bipush (-2), 2) := by decide +kernel
theorem dX9_lets_22 : decode cX9_lets 22 = .ok (.goto 27, 3) := by decide +kernel
theorem dX9_lets_25 : decode cX9_lets 25 = .ok (.aload_n 0, 1) := by decide +kernel
theorem dX9_lets_26 : decode cX9_lets 26 = .ok (.getfield 7, 3) := by decide +kernel
theorem dX9_lets_29 : decode cX9_lets 29 = .ok (.iconst 0, 1) := by decide +kernel
theorem dX9_lets_30 : decode cX9_lets 30 = .ok (.iaload, 1) := by decide +kernel
theorem dX9_lets_31 : decode cX9_lets 31 = .ok (.iload_n 1, 1) := by decide +kernel
theorem dX9_lets_32 : decode cX9_lets 32 = .ok (.iadd, 1) := by decide +kernel
theorem dX9_lets_33 : decode cX9_lets 33 = .ok (.sipush 9000, 3) := by decide +kernel
theorem dX9_lets_36 : decode cX9_lets 36 = .ok (.if_icmp .le 8, 3) := by decide +kernel
theorem dX9_lets_39 : decode cX9_lets 39 = .ok (.bipush (-3), 2) := by decide +kernel
theorem dX9_lets_41 : decode cX9_lets 41 = .ok (.goto 8, 3) := by decide +kernel
theorem dX9_lets_44 : decode cX9_lets 44 = .ok (.aload_n 0, 1) := by decide +kernel
theorem dX9_lets_45 : decode cX9_lets 45 = .ok (.iload_n 1, 1) := by decide +kernel
theorem dX9_lets_46 : decode cX9_lets 46 = .ok (.invokevirtual 122, 3) := by decide +kernel
theorem dX9_lets_49 : decode cX9_lets 49 = .ok (.ireturn, 1) := by decide +kernel
theorem dX9_changes_0 : decode cX9_changes 0 = .ok (.aload_n 0, 1) := by decide +kernel
theorem dX9_changes_1 : decode cX9_changes 1 = .ok (.invokevirtual 107, 3) := by decide +kernel
theorem dX9_changes_4 : decode cX9_changes 4 = .ok (.ifCond .ne 25, 3) := by decide +kernel
theorem dX9_changes_7 : decode cX9_changes 7 = .ok (.aload_n 0, 1) := by decide +kernel
theorem dX9_changes_8 : decode cX9_changes 8 = .ok (.invokevirtual 77, 3) := by decide +kernel
theorem dX9_changes_11 : decode cX9_changes 11 = .ok (.ifCond .ne 18, 3) := by decide +kernel
theorem dX9_changes_14 : decode cX9_changes 14 = .ok (.aload_n 0, 1) := by decide +kernel
theorem dX9_changes_15 : decode cX9_changes 15 = .ok (.iconst 1, 1) := by decide +kernel
theorem dX9_changes_16 : decode cX9_changes 16 = .ok (.aload_n 0, 1) := by decide +kernel
theorem dX9_changes_17 : decode cX9_changes 17 = .ok (.getfield 7, 3) := by decide +kernel
theorem dX9_changes_20 : decode cX9_changes 20 = .ok (.iconst 2, 1) := by decide +kernel
theorem dX9_changes_21 : decode cX9_changes 21 = .ok (.iaload, 1) := by decide +kernel
theorem dX9_changes_22 : decode cX9_changes 22 = .ok (.isub, 1) := by decide +kernel
theorem dX9_changes_23 : decode cX9_changes 23 = .ok (.invokevirtual 125, 3) := by decide +kernel
theorem dX9_changes_26 : decode cX9_changes 26 = .ok (.ifCond .ne 6, 3) := by decide +kernel
theorem dX9_changes_29 : decode cX9_changes 29 = .ok (.bipush (-2), 2) := by decide +kernel
theorem dX9_changes_31 : decode cX9_changes 31 = .ok (.ireturn, 1) := by decide +kernel
theorem dX9_changes_32 : decode cX9_changes 32 = .ok (.aload_n 0, 1) := by decide +kernel
theorem dX9_changes_33 : decode cX9_changes 33 = .ok (.getfield 7, 3) := by decide +kernel
theorem dX9_changes_36 : decode cX9_changes 36 = .ok (.iconst 2, 1) := by decide +kernel
theorem dX9_changes_37 : decode cX9_changes 37 = .ok (.iconst 1, 1) := by decide +kernel
theorem dX9_changes_38 : decode cX9_changes 38 = .ok (.aload_n 0, 1) := by decide +kernel
theorem dX9_changes_39 : decode cX9_changes 39 = .ok (.getfield 7, 3) := by decide +kernel
theorem dX9_changes_42 : decode cX9_changes 42 = .ok (.iconst 2, 1) := by decide +kernel
theorem dX9_changes_43 : decode cX9_changes 43 = .ok (.iaload, 1) := by decide +kernel
theorem dX9_changes_44 : decode cX9_changes 44 = .ok (.isub, 1) := by decide +kernel
theorem dX9_changes_45 : decode cX9_changes 45 = .ok (.iastore, 1) := by decide +kernel
theorem dX9_changes_46 : decode cX9_changes 46 = .ok (.aload_n 0, 1) := by decide +kernel
theorem dX9_changes_47 : decode cX9_changes 47 = .ok (.getfield 7, 3) := by decide +kernel
theorem dX9_changes_50 : decode cX9_changes 50 = .ok (.iconst 2, 1) := by decide +kernel
theorem dX9_changes_51 : decode cX9_changes 51 = .ok (.iaload, 1) := by decide +kernel
theorem dX9_changes_52 : decode cX9_changes 52 = .ok (.ireturn, 1) := by decide +kernel
theorem dX9_cleans_0 : decode cX9_cleans 0 = .ok (.iload_n 1, 1) := by decide +kernel
theorem dX9_cleans_1 : decode cX9_cleans 1 = .ok (.invokestatic 128, 3) := by decide +kernel
theorem dX9_cleans_4 : decode cX9_cleans 4 = .ok (.ifCond .ne 5, 3) := by decide +kernel
theorem dX9_cleans_7 : decode cX9_cleans 7 = .ok (.iconst (-1), 1) := by decide +kernel
theorem dX9_cleans_8 : decode cX9_cleans 8 = .ok (.ireturn, 1) := by decide +kernel
theorem dX9_cleans_9 : decode cX9_cleans 9 = .ok (.aload_n 0, 1) := by decide +kernel
theorem dX9_cleans_10 : decode cX9_cleans 10 = .ok (.invokevirtual 107, 3) := by decide +kernel
theorem dX9_cleans_13 : decode cX9_cleans 13 = .ok (.ifCond .ne 13, 3) := by decide +kernel
theorem dX9_cleans_16 : decode cX9_cleans 16 = .ok (.iload_n 1, 1) := by decide +kernel
theorem dX9_cleans_17 : decode cX9_cleans 17 = .ok (.aload_n 0, 1) := by decide +kernel
theorem dX9_cleans_18 : decode cX9_cleans 18 = .ok (.getfield 7, 3) := by decide +kernel
theorem dX9_cleans_21 : decode cX9_cleans 21 = .ok (.iconst 2, 1) := by decide +kernel
theorem dX9_cleans_22 : decode cX9_cleans 22 = .ok (.iaload, 1) := by decide +kernel
theorem dX9_cleans_23 : decode cX9_cleans 23 = .ok (.if_icmp .ne 6, 3) := by decide +kernel
theorem dX9_cleans_26 : decode cX9_cleans 26 = .ok (.bipush (-2), 2) := by decide +kernel
theorem dX9_cleans_28 : decode cX9_cleans 28 = .ok (.ireturn, 1) := by decide +kernel
theorem dX9_cleans_29 : decode cX9_cleans 29 = .ok (.iconst 0, 1) := by decide +kernel
theorem dX9_cleans_30 : decode cX9_cleans 30 = .ok (.istore_n 2, 1) := by decide +kernel
theorem dX9_cleans_31 : decode cX9_cleans 31 = .ok (.bipush 24, 2) := by decide +kernel
theorem dX9_cleans_33 : decode cX9_cleans 33 = .ok (.iload_n 1, 1) := by decide +kernel
theorem dX9_cleans_34 : decode cX9_cleans 34 = .ok (.imul, 1) := by decide +kernel
theorem dX9_cleans_35 : decode cX9_cleans 35 = .ok (.istore_n 3, 1) := by decide +kernel
theorem dX9_cleans_36 : decode cX9_cleans 36 = .ok (.iload_n 3, 1) := by decide +kernel
theorem dX9_cleans_37 : decode cX9_cleans 37 = .ok (.bipush 24, 2) := by decide +kernel
theorem dX9_cleans_39 : decode cX9_cleans 39 = .ok (.iload_n 1, 1) := by decide +kernel
theorem dX9_cleans_40 : decode cX9_cleans 40 = .ok (.imul, 1) := by decide +kernel
theorem dX9_cleans_41 : decode cX9_cleans 41 = .ok (.bipush 24, 2) := by decide +kernel
theorem dX9_cleans_43 : decode cX9_cleans 43 = .ok (.iadd, 1) := by decide +kernel
theorem dX9_cleans_44 : decode cX9_cleans 44 = .ok (.if_icmp .ge 25, 3) := by decide +kernel
theorem dX9_cleans_47 : decode cX9_cleans 47 = .ok (.iload_n 2, 1) := by decide +kernel
theorem dX9_cleans_48 : decode cX9_cleans 48 = .ok (.aload_n 0, 1) := by decide +kernel
theorem dX9_cleans_49 : decode cX9_cleans 49 = .ok (.iload_n 3, 1) := by decide +kernel
theorem dX9_cleans_50 : decode cX9_cleans 50 = .ok (.invokevirtual 116, 3) := by decide +kernel
theorem dX9_cleans_53 : decode cX9_cleans 53 = .ok (.ifCond .eq 7, 3) := by decide +kernel
theorem dX9_cleans_56 : decode cX9_cleans 56 = .ok (.iconst 1, 1) := by decide +kernel
theorem dX9_cleans_57 : decode cX9_cleans 57 = .ok (.goto 4, 3) := by decide +kernel
theorem dX9_cleans_60 : decode cX9_cleans 60 = .ok (.iconst 0, 1) := by decide +kernel
theorem dX9_cleans_61 : decode cX9_cleans 61 = .ok (.iadd, 1) := by decide +kernel
theorem dX9_cleans_62 : decode cX9_cleans 62 = .ok (.istore_n 2, 1) := by decide +kernel
theorem dX9_cleans_63 : decode cX9_cleans 63 = .ok (.iinc 3 1, 3) := by decide +kernel
theorem dX9_cleans_66 : decode cX9_cleans 66 = .ok (.goto (-30), 3) := by decide +kernel
theorem dX9_cleans_69 : decode cX9_cleans 69 = .ok (.aload_n 0, 1) := by decide +kernel
theorem dX9_cleans_70 : decode cX9_cleans 70 = .ok (.getfield 7, 3) := by decide +kernel
theorem dX9_cleans_73 : decode cX9_cleans 73 = .ok (.bipush 11, 2) := by decide +kernel
theorem dX9_cleans_75 : decode cX9_cleans 75 = .ok (.iaload, 1) := by decide +kernel
theorem dX9_cleans_76 : decode cX9_cleans 76 = .ok (.iload_n 2, 1) := by decide +kernel
theorem dX9_cleans_77 : decode cX9_cleans 77 = .ok (.iadd, 1) := by decide +kernel
theorem dX9_cleans_78 : decode cX9_cleans 78 = .ok (.bipush 8, 2) := by decide +kernel
theorem dX9_cleans_80 : decode cX9_cleans 80 = .ok (.if_icmp .le 6, 3) := by decide +kernel
theorem dX9_cleans_83 : decode cX9_cleans 83 = .ok (.bipush (-3), 2) := by decide +kernel
theorem dX9_cleans_85 : decode cX9_cleans 85 = .ok (.ireturn, 1) := by decide +kernel
theorem dX9_cleans_86 : decode cX9_cleans 86 = .ok (.bipush 24, 2) := by decide +kernel
theorem dX9_cleans_88 : decode cX9_cleans 88 = .ok (.iload_n 1, 1) := by decide +kernel
theorem dX9_cleans_89 : decode cX9_cleans 89 = .ok (.imul, 1) := by decide +kernel
theorem dX9_cleans_90 : decode cX9_cleans 90 = .ok (.istore_n 3, 1) := by decide +kernel
theorem dX9_cleans_91 : decode cX9_cleans 91 = .ok (.iload_n 3, 1) := by decide +kernel
theorem dX9_cleans_92 : decode cX9_cleans 92 = .ok (.bipush 24, 2) := by decide +kernel
theorem dX9_cleans_94 : decode cX9_cleans 94 = .ok (.iload_n 1, 1) := by decide +kernel
theorem dX9_cleans_95 : decode cX9_cleans 95 = .ok (.imul, 1) := by decide +kernel
theorem dX9_cleans_96 : decode cX9_cleans 96 = .ok (.bipush 24, 2) := by decide +kernel
theorem dX9_cleans_98 : decode cX9_cleans 98 = .ok (.iadd, 1) := by decide +kernel
theorem dX9_cleans_99 : decode cX9_cleans 99 = .ok (.if_icmp .ge 23, 3) := by decide +kernel
theorem dX9_cleans_102 : decode cX9_cleans 102 = .ok (.aload_n 0, 1) := by decide +kernel
theorem dX9_cleans_103 : decode cX9_cleans 103 = .ok (.iload_n 3, 1) := by decide +kernel
theorem dX9_cleans_104 : decode cX9_cleans 104 = .ok (.invokevirtual 116, 3) := by decide +kernel
theorem dX9_cleans_107 : decode cX9_cleans 107 = .ok (.ifCond .eq 9, 3) := by decide +kernel
theorem dX9_cleans_110 : decode cX9_cleans 110 = .ok (.aload_n 0, 1) := by decide +kernel
theorem dX9_cleans_111 : decode cX9_cleans 111 = .ok (.iload_n 3, 1) := by decide +kernel
theorem dX9_cleans_112 : decode cX9_cleans 112 = .ok (.iconst 3, 1) := by decide +kernel
theorem dX9_cleans_113 : decode cX9_cleans 113 = .ok (.invokevirtual 119, 3) := by decide +kernel
theorem dX9_cleans_116 : decode cX9_cleans 116 = .ok (.iinc 3 1, 3) := by decide +kernel
theorem dX9_cleans_119 : decode cX9_cleans 119 = .ok (.goto (-28), 3) := by decide +kernel
theorem dX9_cleans_122 : decode cX9_cleans 122 = .ok (.iload_n 2, 1) := by decide +kernel
theorem dX9_cleans_123 : decode cX9_cleans 123 = .ok (.ireturn, 1) := by decide +kernel
theorem dX9_erases_0 : decode cX9_erases 0 = .ok (.iload_n 1, 1) := by decide +kernel
theorem dX9_erases_1 : decode cX9_erases 1 = .ok (.invokestatic 128, 3) := by decide +kernel
theorem dX9_erases_4 : decode cX9_erases 4 = .ok (.ifCond .ne 5, 3) := by decide +kernel
theorem dX9_erases_7 : decode cX9_erases 7 = .ok (.iconst (-1), 1) := by decide +kernel
theorem dX9_erases_8 : decode cX9_erases 8 = .ok (.ireturn, 1) := by decide +kernel
theorem dX9_erases_9 : decode cX9_erases 9 = .ok (.aload_n 0, 1) := by decide +kernel
theorem dX9_erases_10 : decode cX9_erases 10 = .ok (.invokevirtual 107, 3) := by decide +kernel
theorem dX9_erases_13 : decode cX9_erases 13 = .ok (.ifCond .ne 17, 3) := by decide +kernel
theorem dX9_erases_16 : decode cX9_erases 16 = .ok (.iload_n 1, 1) := by decide +kernel
theorem dX9_erases_17 : decode cX9_erases 17 = .ok (.aload_n 0, 1) := by decide +kernel
theorem dX9_erases_18 : decode cX9_erases 18 = .ok (.getfield 7, 3) := by decide +kernel
theorem dX9_erases_21 : decode cX9_erases 21 = .ok (.iconst 2, 1) := by decide +kernel
theorem dX9_erases_22 : decode cX9_erases 22 = .ok (.iaload, 1) := by decide +kernel
theorem dX9_erases_23 : decode cX9_erases 23 = .ok (.if_icmp .eq 7, 3) := by decide +kernel
theorem dX9_erases_26 : decode cX9_erases 26 = .ok (.iconst 1, 1) := by decide +kernel
theorem dX9_erases_27 : decode cX9_erases 27 = .ok (.goto 4, 3) := by decide +kernel
theorem dX9_erases_30 : decode cX9_erases 30 = .ok (.iconst 0, 1) := by decide +kernel
theorem dX9_erases_31 : decode cX9_erases 31 = .ok (.istore_n 2, 1) := by decide +kernel
theorem dX9_erases_32 : decode cX9_erases 32 = .ok (.bipush 24, 2) := by decide +kernel
theorem dX9_erases_34 : decode cX9_erases 34 = .ok (.iload_n 1, 1) := by decide +kernel
theorem dX9_erases_35 : decode cX9_erases 35 = .ok (.imul, 1) := by decide +kernel
theorem dX9_erases_36 : decode cX9_erases 36 = .ok (.istore_n 3, 1) := by decide +kernel
theorem dX9_erases_37 : decode cX9_erases 37 = .ok (.iload_n 3, 1) := by decide +kernel
theorem dX9_erases_38 : decode cX9_erases 38 = .ok (.bipush 24, 2) := by decide +kernel
theorem dX9_erases_40 : decode cX9_erases 40 = .ok (.iload_n 1, 1) := by decide +kernel
theorem dX9_erases_41 : decode cX9_erases 41 = .ok (.imul, 1) := by decide +kernel
theorem dX9_erases_42 : decode cX9_erases 42 = .ok (.bipush 24, 2) := by decide +kernel
theorem dX9_erases_44 : decode cX9_erases 44 = .ok (.iadd, 1) := by decide +kernel
theorem dX9_erases_45 : decode cX9_erases 45 = .ok (.if_icmp .ge 27, 3) := by decide +kernel
theorem dX9_erases_48 : decode cX9_erases 48 = .ok (.iload_n 2, 1) := by decide +kernel
theorem dX9_erases_49 : decode cX9_erases 49 = .ok (.ifCond .eq 15, 3) := by decide +kernel
theorem dX9_erases_52 : decode cX9_erases 52 = .ok (.aload_n 0, 1) := by decide +kernel
theorem dX9_erases_53 : decode cX9_erases 53 = .ok (.iload_n 3, 1) := by decide +kernel
theorem dX9_erases_54 : decode cX9_erases 54 = .ok (.invokevirtual 116, 3) := by decide +kernel
theorem dX9_erases_57 : decode cX9_erases 57 = .ok (.ifCond .ne 7, 3) := by decide +kernel
theorem dX9_erases_60 : decode cX9_erases 60 = .ok (.iconst 1, 1) := by decide +kernel
theorem dX9_erases_61 : decode cX9_erases 61 = .ok (.goto 4, 3) := by decide +kernel
theorem dX9_erases_64 : decode cX9_erases 64 = .ok (.iconst 0, 1) := by decide +kernel
theorem dX9_erases_65 : decode cX9_erases 65 = .ok (.istore_n 2, 1) := by decide +kernel
theorem dX9_erases_66 : decode cX9_erases 66 = .ok (.iinc 3 1, 3) := by decide +kernel
theorem dX9_erases_69 : decode cX9_erases 69 = .ok (.goto (-32), 3) := by decide +kernel
theorem dX9_erases_72 : decode cX9_erases 72 = .ok (.iload_n 2, 1) := by decide +kernel
theorem dX9_erases_73 : decode cX9_erases 73 = .ok (.ifCond .ne 6, 3) := by decide +kernel
theorem dX9_erases_76 : decode cX9_erases 76 = .ok (.bipush (-2), 2) := by decide +kernel
theorem dX9_erases_78 : decode cX9_erases 78 = .ok (.ireturn, 1) := by decide +kernel
theorem dX9_erases_79 : decode cX9_erases 79 = .ok (.iconst 0, 1) := by decide +kernel
theorem dX9_erases_80 : decode cX9_erases 80 = .ok (.istore_n 3, 1) := by decide +kernel
theorem dX9_erases_81 : decode cX9_erases 81 = .ok (.iload_n 3, 1) := by decide +kernel
theorem dX9_erases_82 : decode cX9_erases 82 = .ok (.bipush 64, 2) := by decide +kernel
theorem dX9_erases_84 : decode cX9_erases 84 = .ok (.if_icmp .ge 23, 3) := by decide +kernel
theorem dX9_erases_87 : decode cX9_erases 87 = .ok (.aload_n 0, 1) := by decide +kernel
theorem dX9_erases_88 : decode cX9_erases 88 = .ok (.getfield 7, 3) := by decide +kernel
theorem dX9_erases_91 : decode cX9_erases 91 = .ok (.aload_n 0, 1) := by decide +kernel
theorem dX9_erases_92 : decode cX9_erases 92 = .ok (.iload_n 1, 1) := by decide +kernel
theorem dX9_erases_93 : decode cX9_erases 93 = .ok (.iconst 0, 1) := by decide +kernel
theorem dX9_erases_94 : decode cX9_erases 94 = .ok (.invokevirtual 40, 3) := by decide +kernel
theorem dX9_erases_97 : decode cX9_erases 97 = .ok (.iload_n 3, 1) := by decide +kernel
theorem dX9_erases_98 : decode cX9_erases 98 = .ok (.iadd, 1) := by decide +kernel
theorem dX9_erases_99 : decode cX9_erases 99 = .ok (.iconst 0, 1) := by decide +kernel
theorem dX9_erases_100 : decode cX9_erases 100 = .ok (.iastore, 1) := by decide +kernel
theorem dX9_erases_101 : decode cX9_erases 101 = .ok (.iinc 3 1, 3) := by decide +kernel
theorem dX9_erases_104 : decode cX9_erases 104 = .ok (.goto (-23), 3) := by decide +kernel
theorem dX9_erases_107 : decode cX9_erases 107 = .ok (.iconst 0, 1) := by decide +kernel
theorem dX9_erases_108 : decode cX9_erases 108 = .ok (.istore_n 3, 1) := by decide +kernel
theorem dX9_erases_109 : decode cX9_erases 109 = .ok (.iload_n 3, 1) := by decide +kernel
theorem dX9_erases_110 : decode cX9_erases 110 = .ok (.bipush 8, 2) := by decide +kernel
theorem dX9_erases_112 : decode cX9_erases 112 = .ok (.if_icmp .ge 15, 3) := by decide +kernel
theorem dX9_erases_115 : decode cX9_erases 115 = .ok (.aload_n 0, 1) := by decide +kernel
theorem dX9_erases_116 : decode cX9_erases 116 = .ok (.iload_n 1, 1) := by decide +kernel
theorem dX9_erases_117 : decode cX9_erases 117 = .ok (.iload_n 3, 1) := by decide +kernel
theorem dX9_erases_118 : decode cX9_erases 118 = .ok (.invokevirtual 88, 3) := by decide +kernel
theorem dX9_erases_121 : decode cX9_erases 121 = .ok (.iinc 3 1, 3) := by decide +kernel
theorem dX9_erases_124 : decode cX9_erases 124 = .ok (.goto (-15), 3) := by decide +kernel
theorem dX9_erases_127 : decode cX9_erases 127 = .ok (.aload_n 0, 1) := by decide +kernel
theorem dX9_erases_128 : decode cX9_erases 128 = .ok (.getfield 7, 3) := by decide +kernel
theorem dX9_erases_131 : decode cX9_erases 131 = .ok (.bipush 6, 2) := by decide +kernel
theorem dX9_erases_133 : decode cX9_erases 133 = .ok (.iload_n 1, 1) := by decide +kernel
theorem dX9_erases_134 : decode cX9_erases 134 = .ok (.iadd, 1) := by decide +kernel
theorem dX9_erases_135 : decode cX9_erases 135 = .ok (.dup2, 1) := by decide +kernel
theorem dX9_erases_136 : decode cX9_erases 136 = .ok (.iaload, 1) := by decide +kernel
theorem dX9_erases_137 : decode cX9_erases 137 = .ok (.iconst 1, 1) := by decide +kernel
theorem dX9_erases_138 : decode cX9_erases 138 = .ok (.iadd, 1) := by decide +kernel
theorem dX9_erases_139 : decode cX9_erases 139 = .ok (.iastore, 1) := by decide +kernel
theorem dX9_erases_140 : decode cX9_erases 140 = .ok (.aload_n 0, 1) := by decide +kernel
theorem dX9_erases_141 : decode cX9_erases 141 = .ok (.getfield 7, 3) := by decide +kernel
theorem dX9_erases_144 : decode cX9_erases 144 = .ok (.bipush 6, 2) := by decide +kernel
theorem dX9_erases_146 : decode cX9_erases 146 = .ok (.iload_n 1, 1) := by decide +kernel
theorem dX9_erases_147 : decode cX9_erases 147 = .ok (.iadd, 1) := by decide +kernel
theorem dX9_erases_148 : decode cX9_erases 148 = .ok (.iaload, 1) := by decide +kernel
theorem dX9_erases_149 : decode cX9_erases 149 = .ok (.ireturn, 1) := by decide +kernel
theorem dX9_puts_0 : decode cX9_puts 0 = .ok (.aload_n 0, 1) := by decide +kernel
theorem dX9_puts_1 : decode cX9_puts 1 = .ok (.getfield 7, 3) := by decide +kernel
theorem dX9_puts_4 : decode cX9_puts 4 = .ok (.iload_n 1, 1) := by decide +kernel
theorem dX9_puts_5 : decode cX9_puts 5 = .ok (.iaload, 1) := by decide +kernel
theorem dX9_puts_6 : decode cX9_puts 6 = .ok (.istore_n 3, 1) := by decide +kernel
theorem dX9_puts_7 : decode cX9_puts 7 = .ok (.aload_n 0, 1) := by decide +kernel
