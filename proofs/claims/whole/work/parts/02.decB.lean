theorem dX4_loseByCut_53 : decode cX4_loseByCut 53 = .ok (.dup, 1) := by decide +kernel
theorem dX4_loseByCut_54 : decode cX4_loseByCut 54 = .ok (.getfield 234, 3) := by decide +kernel
theorem dX4_loseByCut_57 : decode cX4_loseByCut 57 = .ok (.aload_n 0, 1) := by decide +kernel
theorem dX4_loseByCut_58 : decode cX4_loseByCut 58 = .ok (.getfield 21, 3) := by decide +kernel
theorem dX4_loseByCut_61 : decode cX4_loseByCut 61 = .ok (.invokevirtual 87, 3) := by decide +kernel
theorem dX4_loseByCut_64 : decode cX4_loseByCut 64 = .ok (.aload_n 0, 1) := by decide +kernel
theorem dX4_loseByCut_65 : decode cX4_loseByCut 65 = .ok (.getfield 28, 3) := by decide +kernel
theorem dX4_loseByCut_68 : decode cX4_loseByCut 68 = .ok (.getfield 105, 3) := by decide +kernel
theorem dX4_loseByCut_71 : decode cX4_loseByCut 71 = .ok (.ifCond .eq 7, 3) := by decide +kernel
theorem dX4_loseByCut_74 : decode cX4_loseByCut 74 = .ok (.iconst 1, 1) := by decide +kernel
theorem dX4_loseByCut_75 : decode cX4_loseByCut 75 = .ok (.goto 4, 3) := by decide +kernel
theorem dX4_loseByCut_78 : decode cX4_loseByCut 78 = .ok (.iconst 0, 1) := by decide +kernel
theorem dX4_loseByCut_79 : decode cX4_loseByCut 79 = .ok (.iadd, 1) := by decide +kernel
theorem dX4_loseByCut_80 : decode cX4_loseByCut 80 = .ok (.iadd, 1) := by decide +kernel
theorem dX4_loseByCut_81 : decode cX4_loseByCut 81 = .ok (.putfield 234, 3) := by decide +kernel
theorem dX4_loseByCut_84 : decode cX4_loseByCut 84 = .ok (.aload_n 0, 1) := by decide +kernel
theorem dX4_loseByCut_85 : decode cX4_loseByCut 85 = .ok (.getfield 21, 3) := by decide +kernel
theorem dX4_loseByCut_88 : decode cX4_loseByCut 88 = .ok (.invokevirtual 237, 3) := by decide +kernel
theorem dX4_loseByCut_91 : decode cX4_loseByCut 91 = .ok (.aload_n 0, 1) := by decide +kernel
theorem dX4_loseByCut_92 : decode cX4_loseByCut 92 = .ok (.getfield 28, 3) := by decide +kernel
theorem dX4_loseByCut_95 : decode cX4_loseByCut 95 = .ok (.getfield 105, 3) := by decide +kernel
theorem dX4_loseByCut_98 : decode cX4_loseByCut 98 = .ok (.ifCond .eq 7, 3) := by decide +kernel
theorem dX4_loseByCut_101 : decode cX4_loseByCut 101 = .ok (.aload_n 0, 1) := by decide +kernel
theorem dX4_loseByCut_102 : decode cX4_loseByCut 102 = .ok (.invokevirtual 240, 3) := by decide +kernel
theorem dX4_loseByCut_105 : decode cX4_loseByCut 105 = .ok (.iconst 0, 1) := by decide +kernel
theorem dX4_loseByCut_106 : decode cX4_loseByCut 106 = .ok (.istore_n 1, 1) := by decide +kernel
theorem dX4_loseByCut_107 : decode cX4_loseByCut 107 = .ok (.iconst 0, 1) := by decide +kernel
theorem dX4_loseByCut_108 : decode cX4_loseByCut 108 = .ok (.istore_n 2, 1) := by decide +kernel
theorem dX4_loseByCut_109 : decode cX4_loseByCut 109 = .ok (.iload_n 2, 1) := by decide +kernel
theorem dX4_loseByCut_110 : decode cX4_loseByCut 110 = .ok (.aload_n 0, 1) := by decide +kernel
theorem dX4_loseByCut_111 : decode cX4_loseByCut 111 = .ok (.getfield 49, 3) := by decide +kernel
theorem dX4_loseByCut_114 : decode cX4_loseByCut 114 = .ok (.arraylength, 1) := by decide +kernel
theorem dX4_loseByCut_115 : decode cX4_loseByCut 115 = .ok (.if_icmp .ge 41, 3) := by decide +kernel
theorem dX4_loseByCut_118 : decode cX4_loseByCut 118 = .ok (.aload_n 0, 1) := by decide +kernel
theorem dX4_loseByCut_119 : decode cX4_loseByCut 119 = .ok (.getfield 49, 3) := by decide +kernel
theorem dX4_loseByCut_122 : decode cX4_loseByCut 122 = .ok (.iload_n 2, 1) := by decide +kernel
theorem dX4_loseByCut_123 : decode cX4_loseByCut 123 = .ok (.iaload, 1) := by decide +kernel
theorem dX4_loseByCut_124 : decode cX4_loseByCut 124 = .ok (.ifCond .le 26, 3) := by decide +kernel
theorem dX4_loseByCut_127 : decode cX4_loseByCut 127 = .ok (.aload_n 0, 1) := by decide +kernel
theorem dX4_loseByCut_128 : decode cX4_loseByCut 128 = .ok (.getfield 12, 3) := by decide +kernel
theorem dX4_loseByCut_131 : decode cX4_loseByCut 131 = .ok (.iload_n 2, 1) := by decide +kernel
theorem dX4_loseByCut_132 : decode cX4_loseByCut 132 = .ok (.invokevirtual 228, 3) := by decide +kernel
theorem dX4_loseByCut_135 : decode cX4_loseByCut 135 = .ok (.aload_n 0, 1) := by decide +kernel
theorem dX4_loseByCut_136 : decode cX4_loseByCut 136 = .ok (.getfield 49, 3) := by decide +kernel
theorem dX4_loseByCut_139 : decode cX4_loseByCut 139 = .ok (.iload_n 2, 1) := by decide +kernel
theorem dX4_loseByCut_140 : decode cX4_loseByCut 140 = .ok (.iaload, 1) := by decide +kernel
theorem dX4_loseByCut_141 : decode cX4_loseByCut 141 = .ok (.if_icmp .eq 9, 3) := by decide +kernel
theorem dX4_loseByCut_144 : decode cX4_loseByCut 144 = .ok (.iload_n 1, 1) := by decide +kernel
theorem dX4_loseByCut_145 : decode cX4_loseByCut 145 = .ok (.iconst 1, 1) := by decide +kernel
theorem dX4_loseByCut_146 : decode cX4_loseByCut 146 = .ok (.iload_n 2, 1) := by decide +kernel
theorem dX4_loseByCut_147 : decode cX4_loseByCut 147 = .ok (.ishl, 1) := by decide +kernel
theorem dX4_loseByCut_148 : decode cX4_loseByCut 148 = .ok (.ior, 1) := by decide +kernel
theorem dX4_loseByCut_149 : decode cX4_loseByCut 149 = .ok (.istore_n 1, 1) := by decide +kernel
theorem dX4_loseByCut_150 : decode cX4_loseByCut 150 = .ok (.iinc 2 1, 3) := by decide +kernel
theorem dX4_loseByCut_153 : decode cX4_loseByCut 153 = .ok (.goto (-44), 3) := by decide +kernel
theorem dX4_loseByCut_156 : decode cX4_loseByCut 156 = .ok (.aload_n 0, 1) := by decide +kernel
theorem dX4_loseByCut_157 : decode cX4_loseByCut 157 = .ok (.getfield 35, 3) := by decide +kernel
theorem dX4_loseByCut_160 : decode cX4_loseByCut 160 = .ok (.dup, 1) := by decide +kernel
theorem dX4_loseByCut_161 : decode cX4_loseByCut 161 = .ok (.getfield 243, 3) := by decide +kernel
theorem dX4_loseByCut_164 : decode cX4_loseByCut 164 = .ok (.iload_n 1, 1) := by decide +kernel
theorem dX4_loseByCut_165 : decode cX4_loseByCut 165 = .ok (.invokestatic 223, 3) := by decide +kernel
theorem dX4_loseByCut_168 : decode cX4_loseByCut 168 = .ok (.iadd, 1) := by decide +kernel
theorem dX4_loseByCut_169 : decode cX4_loseByCut 169 = .ok (.putfield 243, 3) := by decide +kernel
theorem dX4_loseByCut_172 : decode cX4_loseByCut 172 = .ok (.iload_n 1, 1) := by decide +kernel
theorem dX4_loseByCut_173 : decode cX4_loseByCut 173 = .ok (.ireturn, 1) := by decide +kernel
theorem dX4_tearWriting_0 : decode cX4_tearWriting 0 = .ok (.aload_n 0, 1) := by decide +kernel
theorem dX4_tearWriting_1 : decode cX4_tearWriting 1 = .ok (.getfield 28, 3) := by decide +kernel
theorem dX4_tearWriting_4 : decode cX4_tearWriting 4 = .ok (.iconst 0, 1) := by decide +kernel
theorem dX4_tearWriting_5 : decode cX4_tearWriting 5 = .ok (.putfield 105, 3) := by decide +kernel
theorem dX4_tearWriting_8 : decode cX4_tearWriting 8 = .ok (.aload_n 0, 1) := by decide +kernel
theorem dX4_tearWriting_9 : decode cX4_tearWriting 9 = .ok (.getfield 12, 3) := by decide +kernel
theorem dX4_tearWriting_12 : decode cX4_tearWriting 12 = .ok (.aload_n 0, 1) := by decide +kernel
theorem dX4_tearWriting_13 : decode cX4_tearWriting 13 = .ok (.getfield 28, 3) := by decide +kernel
theorem dX4_tearWriting_16 : decode cX4_tearWriting 16 = .ok (.getfield 171, 3) := by decide +kernel
theorem dX4_tearWriting_19 : decode cX4_tearWriting 19 = .ok (.iconst 3, 1) := by decide +kernel
theorem dX4_tearWriting_20 : decode cX4_tearWriting 20 = .ok (.invokevirtual 208, 3) := by decide +kernel
theorem dX4_tearWriting_23 : decode cX4_tearWriting 23 = .ok (.aload_n 0, 1) := by decide +kernel
theorem dX4_tearWriting_24 : decode cX4_tearWriting 24 = .ok (.getfield 28, 3) := by decide +kernel
theorem dX4_tearWriting_27 : decode cX4_tearWriting 27 = .ok (.getfield 163, 3) := by decide +kernel
theorem dX4_tearWriting_30 : decode cX4_tearWriting 30 = .ok (.ifCond .eq 28, 3) := by decide +kernel
theorem dX4_tearWriting_33 : decode cX4_tearWriting 33 = .ok (.aload_n 0, 1) := by decide +kernel
theorem dX4_tearWriting_34 : decode cX4_tearWriting 34 = .ok (.getfield 28, 3) := by decide +kernel
theorem dX4_tearWriting_37 : decode cX4_tearWriting 37 = .ok (.invokevirtual 246, 3) := by decide +kernel
theorem dX4_tearWriting_40 : decode cX4_tearWriting 40 = .ok (.ifCond .eq 18, 3) := by decide +kernel
theorem dX4_tearWriting_43 : decode cX4_tearWriting 43 = .ok (.aload_n 0, 1) := by decide +kernel
theorem dX4_tearWriting_44 : decode cX4_tearWriting 44 = .ok (.getfield 12, 3) := by decide +kernel
theorem dX4_tearWriting_47 : decode cX4_tearWriting 47 = .ok (.aload_n 0, 1) := by decide +kernel
theorem dX4_tearWriting_48 : decode cX4_tearWriting 48 = .ok (.getfield 28, 3) := by decide +kernel
theorem dX4_tearWriting_51 : decode cX4_tearWriting 51 = .ok (.getfield 177, 3) := by decide +kernel
theorem dX4_tearWriting_54 : decode cX4_tearWriting 54 = .ok (.iconst 3, 1) := by decide +kernel
theorem dX4_tearWriting_55 : decode cX4_tearWriting 55 = .ok (.invokevirtual 208, 3) := by decide +kernel
theorem dX4_tearWriting_58 : decode cX4_tearWriting 58 = .ok (.aload_n 0, 1) := by decide +kernel
theorem dX4_tearWriting_59 : decode cX4_tearWriting 59 = .ok (.getfield 12, 3) := by decide +kernel
theorem dX4_tearWriting_62 : decode cX4_tearWriting 62 = .ok (.aload_n 0, 1) := by decide +kernel
theorem dX4_tearWriting_63 : decode cX4_tearWriting 63 = .ok (.getfield 28, 3) := by decide +kernel
theorem dX4_tearWriting_66 : decode cX4_tearWriting 66 = .ok (.getfield 180, 3) := by decide +kernel
theorem dX4_tearWriting_69 : decode cX4_tearWriting 69 = .ok (.invokevirtual 198, 3) := by decide +kernel
theorem dX4_tearWriting_72 : decode cX4_tearWriting 72 = .ok (.iconst 1, 1) := by decide +kernel
theorem dX4_tearWriting_73 : decode cX4_tearWriting 73 = .ok (.if_icmp .ne 18, 3) := by decide +kernel
theorem dX4_tearWriting_76 : decode cX4_tearWriting 76 = .ok (.aload_n 0, 1) := by decide +kernel
theorem dX4_tearWriting_77 : decode cX4_tearWriting 77 = .ok (.getfield 12, 3) := by decide +kernel
theorem dX4_tearWriting_80 : decode cX4_tearWriting 80 = .ok (.aload_n 0, 1) := by decide +kernel
theorem dX4_tearWriting_81 : decode cX4_tearWriting 81 = .ok (.getfield 28, 3) := by decide +kernel
theorem dX4_tearWriting_84 : decode cX4_tearWriting 84 = .ok (.getfield 180, 3) := by decide +kernel
theorem dX4_tearWriting_87 : decode cX4_tearWriting 87 = .ok (.iconst 0, 1) := by decide +kernel
theorem dX4_tearWriting_88 : decode cX4_tearWriting 88 = .ok (.invokevirtual 208, 3) := by decide +kernel
theorem dX4_tearWriting_91 : decode cX4_tearWriting 91 = .ok (.return_, 1) := by decide +kernel
theorem dX4_restorePower_0 : decode cX4_restorePower 0 = .ok (.aload_n 0, 1) := by decide +kernel
theorem dX4_restorePower_1 : decode cX4_restorePower 1 = .ok (.getfield 52, 3) := by decide +kernel
theorem dX4_restorePower_4 : decode cX4_restorePower 4 = .ok (.ifCond .eq 6, 3) := by decide +kernel
theorem dX4_restorePower_7 : decode cX4_restorePower 7 = .ok (.bipush (-2), 2) := by decide +kernel
theorem dX4_restorePower_9 : decode cX4_restorePower 9 = .ok (.ireturn, 1) := by decide +kernel
theorem dX4_restorePower_10 : decode cX4_restorePower 10 = .ok (.aload_n 0, 1) := by decide +kernel
theorem dX4_restorePower_11 : decode cX4_restorePower 11 = .ok (.iconst 1, 1) := by decide +kernel
theorem dX4_restorePower_12 : decode cX4_restorePower 12 = .ok (.putfield 52, 3) := by decide +kernel
theorem dX4_restorePower_15 : decode cX4_restorePower 15 = .ok (.iconst 0, 1) := by decide +kernel
theorem dX4_restorePower_16 : decode cX4_restorePower 16 = .ok (.istore_n 1, 1) := by decide +kernel
theorem dX4_restorePower_17 : decode cX4_restorePower 17 = .ok (.iload_n 1, 1) := by decide +kernel
theorem dX4_restorePower_18 : decode cX4_restorePower 18 = .ok (.iconst 2, 1) := by decide +kernel
theorem dX4_restorePower_19 : decode cX4_restorePower 19 = .ok (.if_icmp .ge 34, 3) := by decide +kernel
theorem dX4_restorePower_22 : decode cX4_restorePower 22 = .ok (.bipush 16, 2) := by decide +kernel
theorem dX4_restorePower_24 : decode cX4_restorePower 24 = .ok (.istore_n 2, 1) := by decide +kernel
theorem dX4_restorePower_25 : decode cX4_restorePower 25 = .ok (.iload_n 2, 1) := by decide +kernel
theorem dX4_restorePower_26 : decode cX4_restorePower 26 = .ok (.bipush 24, 2) := by decide +kernel
theorem dX4_restorePower_28 : decode cX4_restorePower 28 = .ok (.if_icmp .ge 19, 3) := by decide +kernel
theorem dX4_restorePower_31 : decode cX4_restorePower 31 = .ok (.aload_n 0, 1) := by decide +kernel
theorem dX4_restorePower_32 : decode cX4_restorePower 32 = .ok (.iload_n 1, 1) := by decide +kernel
theorem dX4_restorePower_33 : decode cX4_restorePower 33 = .ok (.iload_n 2, 1) := by decide +kernel
theorem dX4_restorePower_34 : decode cX4_restorePower 34 = .ok (.invokestatic 168, 3) := by decide +kernel
theorem dX4_restorePower_37 : decode cX4_restorePower 37 = .ok (.iconst 0, 1) := by decide +kernel
theorem dX4_restorePower_38 : decode cX4_restorePower 38 = .ok (.invokevirtual 249, 3) := by decide +kernel
theorem dX4_restorePower_41 : decode cX4_restorePower 41 = .ok (.iinc 2 1, 3) := by decide +kernel
theorem dX4_restorePower_44 : decode cX4_restorePower 44 = .ok (.goto (-19), 3) := by decide +kernel
theorem dX4_restorePower_47 : decode cX4_restorePower 47 = .ok (.iinc 1 1, 3) := by decide +kernel
theorem dX4_restorePower_50 : decode cX4_restorePower 50 = .ok (.goto (-33), 3) := by decide +kernel
theorem dX4_restorePower_53 : decode cX4_restorePower 53 = .ok (.aload_n 0, 1) := by decide +kernel
theorem dX4_restorePower_54 : decode cX4_restorePower 54 = .ok (.getfield 21, 3) := by decide +kernel
theorem dX4_restorePower_57 : decode cX4_restorePower 57 = .ok (.invokevirtual 87, 3) := by decide +kernel
theorem dX4_restorePower_60 : decode cX4_restorePower 60 = .ok (.ireturn, 1) := by decide +kernel
theorem dX4_askForCopy_0 : decode cX4_askForCopy 0 = .ok (.aload_n 0, 1) := by decide +kernel
theorem dX4_askForCopy_1 : decode cX4_askForCopy 1 = .ok (.getfield 12, 3) := by decide +kernel
theorem dX4_askForCopy_4 : decode cX4_askForCopy 4 = .ok (.iload_n 1, 1) := by decide +kernel
theorem dX4_askForCopy_5 : decode cX4_askForCopy 5 = .ok (.invokevirtual 252, 3) := by decide +kernel
theorem dX4_askForCopy_8 : decode cX4_askForCopy 8 = .ok (.ifCond .eq 35, 3) := by decide +kernel
theorem dX4_askForCopy_11 : decode cX4_askForCopy 11 = .ok (.aload_n 0, 1) := by decide +kernel
theorem dX4_askForCopy_12 : decode cX4_askForCopy 12 = .ok (.getfield 21, 3) := by decide +kernel
theorem dX4_askForCopy_15 : decode cX4_askForCopy 15 = .ok (.aload_n 0, 1) := by decide +kernel
theorem dX4_askForCopy_16 : decode cX4_askForCopy 16 = .ok (.getfield 12, 3) := by decide +kernel
theorem dX4_askForCopy_19 : decode cX4_askForCopy 19 = .ok (.iload_n 1, 1) := by decide +kernel
theorem dX4_askForCopy_20 : decode cX4_askForCopy 20 = .ok (.invokevirtual 256, 3) := by decide +kernel
theorem dX4_askForCopy_23 : decode cX4_askForCopy 23 = .ok (.aload_n 0, 1) := by decide +kernel
theorem dX4_askForCopy_24 : decode cX4_askForCopy 24 = .ok (.getfield 12, 3) := by decide +kernel
theorem dX4_askForCopy_27 : decode cX4_askForCopy 27 = .ok (.iload_n 1, 1) := by decide +kernel
theorem dX4_askForCopy_28 : decode cX4_askForCopy 28 = .ok (.invokevirtual 257, 3) := by decide +kernel
theorem dX4_askForCopy_31 : decode cX4_askForCopy 31 = .ok (.iload_n 2, 1) := by decide +kernel
theorem dX4_askForCopy_32 : decode cX4_askForCopy 32 = .ok (.aload_n 0, 1) := by decide +kernel
theorem dX4_askForCopy_33 : decode cX4_askForCopy 33 = .ok (.getfield 12, 3) := by decide +kernel
theorem dX4_askForCopy_36 : decode cX4_askForCopy 36 = .ok (.iload_n 1, 1) := by decide +kernel
theorem dX4_askForCopy_37 : decode cX4_askForCopy 37 = .ok (.invokevirtual 149, 3) := by decide +kernel
theorem dX4_askForCopy_40 : decode cX4_askForCopy 40 = .ok (.invokevirtual 91, 3) := by decide +kernel
theorem dX4_askForCopy_43 : decode cX4_askForCopy 43 = .ok (.return_, 1) := by decide +kernel
theorem dX4_turnToOther_0 : decode cX4_turnToOther 0 = .ok (.iconst 1, 1) := by decide +kernel
theorem dX4_turnToOther_1 : decode cX4_turnToOther 1 = .ok (.aload_n 0, 1) := by decide +kernel
theorem dX4_turnToOther_2 : decode cX4_turnToOther 2 = .ok (.getfield 76, 3) := by decide +kernel
theorem dX4_turnToOther_5 : decode cX4_turnToOther 5 = .ok (.isub, 1) := by decide +kernel
theorem dX4_turnToOther_6 : decode cX4_turnToOther 6 = .ok (.istore_n 1, 1) := by decide +kernel
theorem dX4_turnToOther_7 : decode cX4_turnToOther 7 = .ok (.aload_n 0, 1) := by decide +kernel
theorem dX4_turnToOther_8 : decode cX4_turnToOther 8 = .ok (.getfield 52, 3) := by decide +kernel
theorem dX4_turnToOther_11 : decode cX4_turnToOther 11 = .ok (.ifCond .eq 24, 3) := by decide +kernel
theorem dX4_turnToOther_14 : decode cX4_turnToOther 14 = .ok (.aload_n 0, 1) := by decide +kernel
theorem dX4_turnToOther_15 : decode cX4_turnToOther 15 = .ok (.getfield 28, 3) := by decide +kernel
theorem dX4_turnToOther_18 : decode cX4_turnToOther 18 = .ok (.getfield 105, 3) := by decide +kernel
theorem dX4_turnToOther_21 : decode cX4_turnToOther 21 = .ok (.ifCond .ne 14, 3) := by decide +kernel
theorem dX4_turnToOther_24 : decode cX4_turnToOther 24 = .ok (.aload_n 0, 1) := by decide +kernel
theorem dX4_turnToOther_25 : decode cX4_turnToOther 25 = .ok (.getfield 12, 3) := by decide +kernel
theorem dX4_turnToOther_28 : decode cX4_turnToOther 28 = .ok (.iload_n 1, 1) := by decide +kernel
theorem dX4_turnToOther_29 : decode cX4_turnToOther 29 = .ok (.invokevirtual 258, 3) := by decide +kernel
theorem dX4_turnToOther_32 : decode cX4_turnToOther 32 = .ok (.ifCond .ne 6, 3) := by decide +kernel
theorem dX4_turnToOther_35 : decode cX4_turnToOther 35 = .ok (.bipush (-2), 2) := by decide +kernel
theorem dX4_turnToOther_37 : decode cX4_turnToOther 37 = .ok (.ireturn, 1) := by decide +kernel
theorem dX4_turnToOther_38 : decode cX4_turnToOther 38 = .ok (.aload_n 0, 1) := by decide +kernel
theorem dX4_turnToOther_39 : decode cX4_turnToOther 39 = .ok (.iload_n 1, 1) := by decide +kernel
theorem dX4_turnToOther_40 : decode cX4_turnToOther 40 = .ok (.putfield 76, 3) := by decide +kernel
theorem dX4_turnToOther_43 : decode cX4_turnToOther 43 = .ok (.aload_n 0, 1) := by decide +kernel
theorem dX4_turnToOther_44 : decode cX4_turnToOther 44 = .ok (.iconst 0, 1) := by decide +kernel
theorem dX4_turnToOther_45 : decode cX4_turnToOther 45 = .ok (.putfield 80, 3) := by decide +kernel
theorem dX4_turnToOther_48 : decode cX4_turnToOther 48 = .ok (.iload_n 1, 1) := by decide +kernel
theorem dX4_turnToOther_49 : decode cX4_turnToOther 49 = .ok (.ireturn, 1) := by decide +kernel
theorem dX4_cleanBlock_0 : decode cX4_cleanBlock 0 = .ok (.iload_n 1, 1) := by decide +kernel
theorem dX4_cleanBlock_1 : decode cX4_cleanBlock 1 = .ok (.iconst 0, 1) := by decide +kernel
theorem dX4_cleanBlock_2 : decode cX4_cleanBlock 2 = .ok (.iconst 1, 1) := by decide +kernel
theorem dX4_cleanBlock_3 : decode cX4_cleanBlock 3 = .ok (.invokestatic 83, 3) := by decide +kernel
theorem dX4_cleanBlock_6 : decode cX4_cleanBlock 6 = .ok (.ifCond .ne 5, 3) := by decide +kernel
theorem dX4_cleanBlock_9 : decode cX4_cleanBlock 9 = .ok (.iconst (-1), 1) := by decide +kernel
theorem dX4_cleanBlock_10 : decode cX4_cleanBlock 10 = .ok (.ireturn, 1) := by decide +kernel
theorem dX4_cleanBlock_11 : decode cX4_cleanBlock 11 = .ok (.aload_n 0, 1) := by decide +kernel
theorem dX4_cleanBlock_12 : decode cX4_cleanBlock 12 = .ok (.getfield 52, 3) := by decide +kernel
theorem dX4_cleanBlock_15 : decode cX4_cleanBlock 15 = .ok (.ifCond .eq 11, 3) := by decide +kernel
theorem dX4_cleanBlock_18 : decode cX4_cleanBlock 18 = .ok (.iload_n 1, 1) := by decide +kernel
theorem dX4_cleanBlock_19 : decode cX4_cleanBlock 19 = .ok (.aload_n 0, 1) := by decide +kernel
theorem dX4_cleanBlock_20 : decode cX4_cleanBlock 20 = .ok (.getfield 76, 3) := by decide +kernel
theorem dX4_cleanBlock_23 : decode cX4_cleanBlock 23 = .ok (.if_icmp .ne 6, 3) := by decide +kernel
theorem dX4_cleanBlock_26 : decode cX4_cleanBlock 26 = .ok (.bipush (-2), 2) := by decide +kernel
theorem dX4_cleanBlock_28 : decode cX4_cleanBlock 28 = .ok (.ireturn, 1) := by decide +kernel
theorem dX4_cleanBlock_29 : decode cX4_cleanBlock 29 = .ok (.aload_n 0, 1) := by decide +kernel
theorem dX4_cleanBlock_30 : decode cX4_cleanBlock 30 = .ok (.getfield 12, 3) := by decide +kernel
theorem dX4_cleanBlock_33 : decode cX4_cleanBlock 33 = .ok (.iload_n 1, 1) := by decide +kernel
theorem dX4_cleanBlock_34 : decode cX4_cleanBlock 34 = .ok (.invokevirtual 261, 3) := by decide +kernel
theorem dX4_cleanBlock_37 : decode cX4_cleanBlock 37 = .ok (.istore_n 2, 1) := by decide +kernel
theorem dX4_cleanBlock_38 : decode cX4_cleanBlock 38 = .ok (.aload_n 0, 1) := by decide +kernel
theorem dX4_cleanBlock_39 : decode cX4_cleanBlock 39 = .ok (.getfield 21, 3) := by decide +kernel
theorem dX4_cleanBlock_42 : decode cX4_cleanBlock 42 = .ok (.invokevirtual 87, 3) := by decide +kernel
theorem dX4_cleanBlock_45 : decode cX4_cleanBlock 45 = .ok (.iload_n 2, 1) := by decide +kernel
theorem dX4_cleanBlock_46 : decode cX4_cleanBlock 46 = .ok (.iadd, 1) := by decide +kernel
theorem dX4_cleanBlock_47 : decode cX4_cleanBlock 47 = .ok (.bipush 8, 2) := by decide +kernel
theorem dX4_cleanBlock_49 : decode cX4_cleanBlock 49 = .ok (.if_icmp .le 6, 3) := by decide +kernel
theorem dX4_cleanBlock_52 : decode cX4_cleanBlock 52 = .ok (.bipush (-3), 2) := by decide +kernel
theorem dX4_cleanBlock_54 : decode cX4_cleanBlock 54 = .ok (.ireturn, 1) := by decide +kernel
theorem dX4_cleanBlock_55 : decode cX4_cleanBlock 55 = .ok (.iconst 0, 1) := by decide +kernel
theorem dX4_cleanBlock_56 : decode cX4_cleanBlock 56 = .ok (.istore_n 3, 1) := by decide +kernel
theorem dX4_cleanBlock_57 : decode cX4_cleanBlock 57 = .ok (.iload_n 3, 1) := by decide +kernel
theorem dX4_cleanBlock_58 : decode cX4_cleanBlock 58 = .ok (.bipush 24, 2) := by decide +kernel
theorem dX4_cleanBlock_60 : decode cX4_cleanBlock 60 = .ok (.if_icmp .ge 19, 3) := by decide +kernel
theorem dX4_cleanBlock_63 : decode cX4_cleanBlock 63 = .ok (.aload_n 0, 1) := by decide +kernel
theorem dX4_cleanBlock_64 : decode cX4_cleanBlock 64 = .ok (.iload_n 1, 1) := by decide +kernel
theorem dX4_cleanBlock_65 : decode cX4_cleanBlock 65 = .ok (.iload_n 3, 1) := by decide +kernel
theorem dX4_cleanBlock_66 : decode cX4_cleanBlock 66 = .ok (.invokestatic 168, 3) := by decide +kernel
theorem dX4_cleanBlock_69 : decode cX4_cleanBlock 69 = .ok (.iconst 3, 1) := by decide +kernel
theorem dX4_cleanBlock_70 : decode cX4_cleanBlock 70 = .ok (.invokevirtual 249, 3) := by decide +kernel
theorem dX4_cleanBlock_73 : decode cX4_cleanBlock 73 = .ok (.iinc 3 1, 3) := by decide +kernel
theorem dX4_cleanBlock_76 : decode cX4_cleanBlock 76 = .ok (.goto (-19), 3) := by decide +kernel
theorem dX4_cleanBlock_79 : decode cX4_cleanBlock 79 = .ok (.iload_n 2, 1) := by decide +kernel
theorem dX4_cleanBlock_80 : decode cX4_cleanBlock 80 = .ok (.ireturn, 1) := by decide +kernel
theorem dX4_eraseBlock_0 : decode cX4_eraseBlock 0 = .ok (.iload_n 1, 1) := by decide +kernel
theorem dX4_eraseBlock_1 : decode cX4_eraseBlock 1 = .ok (.iconst 0, 1) := by decide +kernel
theorem dX4_eraseBlock_2 : decode cX4_eraseBlock 2 = .ok (.iconst 1, 1) := by decide +kernel
theorem dX4_eraseBlock_3 : decode cX4_eraseBlock 3 = .ok (.invokestatic 83, 3) := by decide +kernel
theorem dX4_eraseBlock_6 : decode cX4_eraseBlock 6 = .ok (.ifCond .ne 5, 3) := by decide +kernel
theorem dX4_eraseBlock_9 : decode cX4_eraseBlock 9 = .ok (.iconst (-1), 1) := by decide +kernel
theorem dX4_eraseBlock_10 : decode cX4_eraseBlock 10 = .ok (.ireturn, 1) := by decide +kernel
theorem dX4_eraseBlock_11 : decode cX4_eraseBlock 11 = .ok (.aload_n 0, 1) := by decide +kernel
theorem dX4_eraseBlock_12 : decode cX4_eraseBlock 12 = .ok (.getfield 52, 3) := by decide +kernel
theorem dX4_eraseBlock_15 : decode cX4_eraseBlock 15 = .ok (.ifCond .eq 22, 3) := by decide +kernel
theorem dX4_eraseBlock_18 : decode cX4_eraseBlock 18 = .ok (.iload_n 1, 1) := by decide +kernel
theorem dX4_eraseBlock_19 : decode cX4_eraseBlock 19 = .ok (.aload_n 0, 1) := by decide +kernel
theorem dX4_eraseBlock_20 : decode cX4_eraseBlock 20 = .ok (.getfield 76, 3) := by decide +kernel
theorem dX4_eraseBlock_23 : decode cX4_eraseBlock 23 = .ok (.if_icmp .eq 14, 3) := by decide +kernel
theorem dX4_eraseBlock_26 : decode cX4_eraseBlock 26 = .ok (.aload_n 0, 1) := by decide +kernel
theorem dX4_eraseBlock_27 : decode cX4_eraseBlock 27 = .ok (.getfield 12, 3) := by decide +kernel
theorem dX4_eraseBlock_30 : decode cX4_eraseBlock 30 = .ok (.iload_n 1, 1) := by decide +kernel
theorem dX4_eraseBlock_31 : decode cX4_eraseBlock 31 = .ok (.invokevirtual 261, 3) := by decide +kernel
theorem dX4_eraseBlock_34 : decode cX4_eraseBlock 34 = .ok (.ifCond .le 6, 3) := by decide +kernel
theorem dX4_eraseBlock_37 : decode cX4_eraseBlock 37 = .ok (.bipush (-2), 2) := by decide +kernel
theorem dX4_eraseBlock_39 : decode cX4_eraseBlock 39 = .ok (.ireturn, 1) := by decide +kernel
theorem dX4_eraseBlock_40 : decode cX4_eraseBlock 40 = .ok (.aload_n 0, 1) := by decide +kernel
theorem dX4_eraseBlock_41 : decode cX4_eraseBlock 41 = .ok (.getfield 12, 3) := by decide +kernel
theorem dX4_eraseBlock_44 : decode cX4_eraseBlock 44 = .ok (.iload_n 1, 1) := by decide +kernel
theorem dX4_eraseBlock_45 : decode cX4_eraseBlock 45 = .ok (.invokevirtual 264, 3) := by decide +kernel
theorem dX4_eraseBlock_48 : decode cX4_eraseBlock 48 = .ok (.aload_n 0, 1) := by decide +kernel
theorem dX4_eraseBlock_49 : decode cX4_eraseBlock 49 = .ok (.getfield 46, 3) := by decide +kernel
theorem dX4_eraseBlock_52 : decode cX4_eraseBlock 52 = .ok (.iload_n 1, 1) := by decide +kernel
theorem dX4_eraseBlock_53 : decode cX4_eraseBlock 53 = .ok (.invokestatic 156, 3) := by decide +kernel
theorem dX4_eraseBlock_56 : decode cX4_eraseBlock 56 = .ok (.iconst 1, 1) := by decide +kernel
theorem dX4_eraseBlock_57 : decode cX4_eraseBlock 57 = .ok (.iadd, 1) := by decide +kernel
theorem dX4_eraseBlock_58 : decode cX4_eraseBlock 58 = .ok (.istore_n 2, 1) := by decide +kernel
theorem dX4_eraseBlock_59 : decode cX4_eraseBlock 59 = .ok (.aload_n 0, 1) := by decide +kernel
theorem dX4_eraseBlock_60 : decode cX4_eraseBlock 60 = .ok (.getfield 46, 3) := by decide +kernel
theorem dX4_eraseBlock_63 : decode cX4_eraseBlock 63 = .ok (.iload_n 1, 1) := by decide +kernel
theorem dX4_eraseBlock_64 : decode cX4_eraseBlock 64 = .ok (.iload_n 2, 1) := by decide +kernel
theorem dX4_eraseBlock_65 : decode cX4_eraseBlock 65 = .ok (.invokestatic 267, 3) := by decide +kernel
theorem dX4_eraseBlock_68 : decode cX4_eraseBlock 68 = .ok (.iload_n 2, 1) := by decide +kernel
theorem dX4_eraseBlock_69 : decode cX4_eraseBlock 69 = .ok (.ireturn, 1) := by decide +kernel
theorem dX4_changeSlowness_0 : decode cX4_changeSlowness 0 = .ok (.iload_n 1, 1) := by decide +kernel
theorem dX4_changeSlowness_1 : decode cX4_changeSlowness 1 = .ok (.iconst 0, 1) := by decide +kernel
theorem dX4_changeSlowness_2 : decode cX4_changeSlowness 2 = .ok (.bipush 7, 2) := by decide +kernel
theorem dX4_changeSlowness_4 : decode cX4_changeSlowness 4 = .ok (.invokestatic 83, 3) := by decide +kernel
theorem dX4_changeSlowness_7 : decode cX4_changeSlowness 7 = .ok (.ifCond .eq 12, 3) := by decide +kernel
theorem dX4_changeSlowness_10 : decode cX4_changeSlowness 10 = .ok (.iload_n 2, 1) := by decide +kernel
theorem dX4_changeSlowness_11 : decode cX4_changeSlowness 11 = .ok (.iconst 0, 1) := by decide +kernel
theorem dX4_changeSlowness_12 : decode cX4_changeSlowness 12 = .ok (.iconst 5, 1) := by decide +kernel
theorem dX4_changeSlowness_13 : decode cX4_changeSlowness 13 = .ok (.invokestatic 83, 3) := by decide +kernel
theorem dX4_changeSlowness_16 : decode cX4_changeSlowness 16 = .ok (.ifCond .ne 5, 3) := by decide +kernel
theorem dX4_changeSlowness_19 : decode cX4_changeSlowness 19 = .ok (.iconst (-1), 1) := by decide +kernel
theorem dX4_changeSlowness_20 : decode cX4_changeSlowness 20 = .ok (.ireturn, 1) := by decide +kernel
theorem dX4_changeSlowness_21 : decode cX4_changeSlowness 21 = .ok (.aload_n 0, 1) := by decide +kernel
theorem dX4_changeSlowness_22 : decode cX4_changeSlowness 22 = .ok (.getfield 43, 3) := by decide +kernel
theorem dX4_changeSlowness_25 : decode cX4_changeSlowness 25 = .ok (.iload_n 1, 1) := by decide +kernel
theorem dX4_changeSlowness_26 : decode cX4_changeSlowness 26 = .ok (.invokestatic 156, 3) := by decide +kernel
theorem dX4_changeSlowness_29 : decode cX4_changeSlowness 29 = .ok (.istore_n 3, 1) := by decide +kernel
theorem dX4_changeSlowness_30 : decode cX4_changeSlowness 30 = .ok (.aload_n 0, 1) := by decide +kernel
theorem dX4_changeSlowness_31 : decode cX4_changeSlowness 31 = .ok (.getfield 43, 3) := by decide +kernel
theorem dX4_changeSlowness_34 : decode cX4_changeSlowness 34 = .ok (.iload_n 1, 1) := by decide +kernel
theorem dX4_changeSlowness_35 : decode cX4_changeSlowness 35 = .ok (.iload_n 2, 1) := by decide +kernel
theorem dX4_changeSlowness_36 : decode cX4_changeSlowness 36 = .ok (.invokestatic 267, 3) := by decide +kernel
theorem dX4_changeSlowness_39 : decode cX4_changeSlowness 39 = .ok (.iload_n 3, 1) := by decide +kernel
theorem dX4_changeSlowness_40 : decode cX4_changeSlowness 40 = .ok (.ireturn, 1) := by decide +kernel
theorem dX4_changeSetting_0 : decode cX4_changeSetting 0 = .ok (.iload_n 1, 1) := by decide +kernel
theorem dX4_changeSetting_1 : decode cX4_changeSetting 1 = .ok (.iconst 0, 1) := by decide +kernel
theorem dX4_changeSetting_2 : decode cX4_changeSetting 2 = .ok (.iconst 3, 1) := by decide +kernel
theorem dX4_changeSetting_3 : decode cX4_changeSetting 3 = .ok (.invokestatic 83, 3) := by decide +kernel
theorem dX4_changeSetting_6 : decode cX4_changeSetting 6 = .ok (.ifCond .eq 24, 3) := by decide +kernel
theorem dX4_changeSetting_9 : decode cX4_changeSetting 9 = .ok (.iload_n 2, 1) := by decide +kernel
theorem dX4_changeSetting_10 : decode cX4_changeSetting 10 = .ok (.getstatic 271, 3) := by decide +kernel
theorem dX4_changeSetting_13 : decode cX4_changeSetting 13 = .ok (.iload_n 1, 1) := by decide +kernel
theorem dX4_changeSetting_14 : decode cX4_changeSetting 14 = .ok (.invokestatic 156, 3) := by decide +kernel
theorem dX4_changeSetting_17 : decode cX4_changeSetting 17 = .ok (.getstatic 274, 3) := by decide +kernel
theorem dX4_changeSetting_20 : decode cX4_changeSetting 20 = .ok (.iload_n 1, 1) := by decide +kernel
theorem dX4_changeSetting_21 : decode cX4_changeSetting 21 = .ok (.invokestatic 156, 3) := by decide +kernel
theorem dX4_changeSetting_24 : decode cX4_changeSetting 24 = .ok (.invokestatic 83, 3) := by decide +kernel
theorem dX4_changeSetting_27 : decode cX4_changeSetting 27 = .ok (.ifCond .ne 5, 3) := by decide +kernel
theorem dX4_changeSetting_30 : decode cX4_changeSetting 30 = .ok (.iconst (-1), 1) := by decide +kernel
theorem dX4_changeSetting_31 : decode cX4_changeSetting 31 = .ok (.ireturn, 1) := by decide +kernel
theorem dX4_changeSetting_32 : decode cX4_changeSetting 32 = .ok (.aload_n 0, 1) := by decide +kernel
theorem dX4_changeSetting_33 : decode cX4_changeSetting 33 = .ok (.getfield 39, 3) := by decide +kernel
theorem dX4_changeSetting_36 : decode cX4_changeSetting 36 = .ok (.iload_n 1, 1) := by decide +kernel
theorem dX4_changeSetting_37 : decode cX4_changeSetting 37 = .ok (.invokestatic 156, 3) := by decide +kernel
theorem dX4_changeSetting_40 : decode cX4_changeSetting 40 = .ok (.istore_n 3, 1) := by decide +kernel
theorem dX4_changeSetting_41 : decode cX4_changeSetting 41 = .ok (.aload_n 0, 1) := by decide +kernel
theorem dX4_changeSetting_42 : decode cX4_changeSetting 42 = .ok (.getfield 39, 3) := by decide +kernel
theorem dX4_changeSetting_45 : decode cX4_changeSetting 45 = .ok (.iload_n 1, 1) := by decide +kernel
theorem dX4_changeSetting_46 : decode cX4_changeSetting 46 = .ok (.iload_n 2, 1) := by decide +kernel
theorem dX4_changeSetting_47 : decode cX4_changeSetting 47 = .ok (.invokestatic 267, 3) := by decide +kernel
theorem dX4_changeSetting_50 : decode cX4_changeSetting 50 = .ok (.iload_n 3, 1) := by decide +kernel
theorem dX4_changeSetting_51 : decode cX4_changeSetting 51 = .ok (.ireturn, 1) := by decide +kernel
theorem dX4_valueOfKey_0 : decode cX4_valueOfKey 0 = .ok (.iload_n 1, 1) := by decide +kernel
theorem dX4_valueOfKey_1 : decode cX4_valueOfKey 1 = .ok (.iconst 0, 1) := by decide +kernel
theorem dX4_valueOfKey_2 : decode cX4_valueOfKey 2 = .ok (.bipush 11, 2) := by decide +kernel
theorem dX4_valueOfKey_4 : decode cX4_valueOfKey 4 = .ok (.invokestatic 83, 3) := by decide +kernel
theorem dX4_valueOfKey_7 : decode cX4_valueOfKey 7 = .ok (.ifCond .ne 5, 3) := by decide +kernel
theorem dX4_valueOfKey_10 : decode cX4_valueOfKey 10 = .ok (.iconst (-1), 1) := by decide +kernel
theorem dX4_valueOfKey_11 : decode cX4_valueOfKey 11 = .ok (.ireturn, 1) := by decide +kernel
theorem dX4_valueOfKey_12 : decode cX4_valueOfKey 12 = .ok (.aload_n 0, 1) := by decide +kernel
theorem dX4_valueOfKey_13 : decode cX4_valueOfKey 13 = .ok (.getfield 12, 3) := by decide +kernel
theorem dX4_valueOfKey_16 : decode cX4_valueOfKey 16 = .ok (.iload_n 1, 1) := by decide +kernel
theorem dX4_valueOfKey_17 : decode cX4_valueOfKey 17 = .ok (.invokevirtual 146, 3) := by decide +kernel
theorem dX4_valueOfKey_20 : decode cX4_valueOfKey 20 = .ok (.istore_n 2, 1) := by decide +kernel
theorem dX4_valueOfKey_21 : decode cX4_valueOfKey 21 = .ok (.iload_n 2, 1) := by decide +kernel
theorem dX4_valueOfKey_22 : decode cX4_valueOfKey 22 = .ok (.iconst (-1), 1) := by decide +kernel
theorem dX4_valueOfKey_23 : decode cX4_valueOfKey 23 = .ok (.if_icmp .ne 8, 3) := by decide +kernel
theorem dX4_valueOfKey_26 : decode cX4_valueOfKey 26 = .ok (.bipush (-4), 2) := by decide +kernel
theorem dX4_valueOfKey_28 : decode cX4_valueOfKey 28 = .ok (.goto 11, 3) := by decide +kernel
theorem dX4_valueOfKey_31 : decode cX4_valueOfKey 31 = .ok (.aload_n 0, 1) := by decide +kernel
theorem dX4_valueOfKey_32 : decode cX4_valueOfKey 32 = .ok (.getfield 12, 3) := by decide +kernel
theorem dX4_valueOfKey_35 : decode cX4_valueOfKey 35 = .ok (.iload_n 2, 1) := by decide +kernel
theorem dX4_valueOfKey_36 : decode cX4_valueOfKey 36 = .ok (.invokevirtual 257, 3) := by decide +kernel
theorem dX4_valueOfKey_39 : decode cX4_valueOfKey 39 = .ok (.ireturn, 1) := by decide +kernel
theorem dX4_placeFact_0 : decode cX4_placeFact 0 = .ok (.iload_n 1, 1) := by decide +kernel
theorem dX4_placeFact_1 : decode cX4_placeFact 1 = .ok (.iconst 0, 1) := by decide +kernel
theorem dX4_placeFact_2 : decode cX4_placeFact 2 = .ok (.bipush 11, 2) := by decide +kernel
theorem dX4_placeFact_4 : decode cX4_placeFact 4 = .ok (.invokestatic 83, 3) := by decide +kernel
theorem dX4_placeFact_7 : decode cX4_placeFact 7 = .ok (.ifCond .eq 12, 3) := by decide +kernel
theorem dX4_placeFact_10 : decode cX4_placeFact 10 = .ok (.iload_n 2, 1) := by decide +kernel
theorem dX4_placeFact_11 : decode cX4_placeFact 11 = .ok (.iconst 0, 1) := by decide +kernel
theorem dX4_placeFact_12 : decode cX4_placeFact 12 = .ok (.iconst 2, 1) := by decide +kernel
theorem dX4_placeFact_13 : decode cX4_placeFact 13 = .ok (.invokestatic 83, 3) := by decide +kernel
theorem dX4_placeFact_16 : decode cX4_placeFact 16 = .ok (.ifCond .ne 5, 3) := by decide +kernel
theorem dX4_placeFact_19 : decode cX4_placeFact 19 = .ok (.iconst (-1), 1) := by decide +kernel
theorem dX4_placeFact_20 : decode cX4_placeFact 20 = .ok (.ireturn, 1) := by decide +kernel
theorem dX4_placeFact_21 : decode cX4_placeFact 21 = .ok (.aload_n 0, 1) := by decide +kernel
theorem dX4_placeFact_22 : decode cX4_placeFact 22 = .ok (.getfield 12, 3) := by decide +kernel
theorem dX4_placeFact_25 : decode cX4_placeFact 25 = .ok (.iload_n 1, 1) := by decide +kernel
theorem dX4_placeFact_26 : decode cX4_placeFact 26 = .ok (.invokevirtual 146, 3) := by decide +kernel
theorem dX4_placeFact_29 : decode cX4_placeFact 29 = .ok (.istore_n 3, 1) := by decide +kernel
theorem dX4_placeFact_30 : decode cX4_placeFact 30 = .ok (.iload_n 3, 1) := by decide +kernel
theorem dX4_placeFact_31 : decode cX4_placeFact 31 = .ok (.iconst (-1), 1) := by decide +kernel
theorem dX4_placeFact_32 : decode cX4_placeFact 32 = .ok (.if_icmp .ne 6, 3) := by decide +kernel
theorem dX4_placeFact_35 : decode cX4_placeFact 35 = .ok (.bipush (-4), 2) := by decide +kernel
theorem dX4_placeFact_37 : decode cX4_placeFact 37 = .ok (.ireturn, 1) := by decide +kernel
theorem dX4_placeFact_38 : decode cX4_placeFact 38 = .ok (.iload_n 2, 1) := by decide +kernel
theorem dX4_placeFact_39 : decode cX4_placeFact 39 = .ok (.ifCond .ne 8, 3) := by decide +kernel
theorem dX4_placeFact_42 : decode cX4_placeFact 42 = .ok (.iload_n 3, 1) := by decide +kernel
theorem dX4_placeFact_43 : decode cX4_placeFact 43 = .ok (.bipush 24, 2) := by decide +kernel
theorem dX4_placeFact_45 : decode cX4_placeFact 45 = .ok (.idiv, 1) := by decide +kernel
theorem dX4_placeFact_46 : decode cX4_placeFact 46 = .ok (.ireturn, 1) := by decide +kernel
theorem dX4_placeFact_47 : decode cX4_placeFact 47 = .ok (.iload_n 2, 1) := by decide +kernel
theorem dX4_placeFact_48 : decode cX4_placeFact 48 = .ok (.iconst 1, 1) := by decide +kernel
theorem dX4_placeFact_49 : decode cX4_placeFact 49 = .ok (.if_icmp .ne 10, 3) := by decide +kernel
theorem dX4_placeFact_52 : decode cX4_placeFact 52 = .ok (.iload_n 3, 1) := by decide +kernel
theorem dX4_placeFact_53 : decode cX4_placeFact 53 = .ok (.bipush 24, 2) := by decide +kernel
theorem dX4_placeFact_55 : decode cX4_placeFact 55 = .ok (.irem, 1) := by decide +kernel
theorem dX4_placeFact_56 : decode cX4_placeFact 56 = .ok (.goto 11, 3) := by decide +kernel
theorem dX4_placeFact_59 : decode cX4_placeFact 59 = .ok (.aload_n 0, 1) := by decide +kernel
theorem dX4_placeFact_60 : decode cX4_placeFact 60 = .ok (.getfield 12, 3) := by decide +kernel
theorem dX4_placeFact_63 : decode cX4_placeFact 63 = .ok (.iload_n 3, 1) := by decide +kernel
theorem dX4_placeFact_64 : decode cX4_placeFact 64 = .ok (.invokevirtual 149, 3) := by decide +kernel
theorem dX4_placeFact_67 : decode cX4_placeFact 67 = .ok (.ireturn, 1) := by decide +kernel
theorem dX4_pageFact_0 : decode cX4_pageFact 0 = .ok (.iload_n 1, 1) := by decide +kernel
theorem dX4_pageFact_1 : decode cX4_pageFact 1 = .ok (.iconst 0, 1) := by decide +kernel
theorem dX4_pageFact_2 : decode cX4_pageFact 2 = .ok (.iconst 1, 1) := by decide +kernel
theorem dX4_pageFact_3 : decode cX4_pageFact 3 = .ok (.invokestatic 83, 3) := by decide +kernel
theorem dX4_pageFact_6 : decode cX4_pageFact 6 = .ok (.ifCond .eq 22, 3) := by decide +kernel
theorem dX4_pageFact_9 : decode cX4_pageFact 9 = .ok (.iload_n 2, 1) := by decide +kernel
theorem dX4_pageFact_10 : decode cX4_pageFact 10 = .ok (.iconst 0, 1) := by decide +kernel
theorem dX4_pageFact_11 : decode cX4_pageFact 11 = .ok (.bipush 15, 2) := by decide +kernel
theorem dX4_pageFact_13 : decode cX4_pageFact 13 = .ok (.invokestatic 83, 3) := by decide +kernel
theorem dX4_pageFact_16 : decode cX4_pageFact 16 = .ok (.ifCond .eq 12, 3) := by decide +kernel
theorem dX4_pageFact_19 : decode cX4_pageFact 19 = .ok (.iload_n 3, 1) := by decide +kernel
theorem dX4_pageFact_20 : decode cX4_pageFact 20 = .ok (.iconst 0, 1) := by decide +kernel
theorem dX4_pageFact_21 : decode cX4_pageFact 21 = .ok (.iconst 5, 1) := by decide +kernel
theorem dX4_pageFact_22 : decode cX4_pageFact 22 = .ok (.invokestatic 83, 3) := by decide +kernel
theorem dX4_pageFact_25 : decode cX4_pageFact 25 = .ok (.ifCond .ne 5, 3) := by decide +kernel
theorem dX4_pageFact_28 : decode cX4_pageFact 28 = .ok (.iconst (-1), 1) := by decide +kernel
theorem dX4_pageFact_29 : decode cX4_pageFact 29 = .ok (.ireturn, 1) := by decide +kernel
theorem dX4_pageFact_30 : decode cX4_pageFact 30 = .ok (.iload_n 1, 1) := by decide +kernel
theorem dX4_pageFact_31 : decode cX4_pageFact 31 = .ok (.iload_n 2, 1) := by decide +kernel
theorem dX4_pageFact_32 : decode cX4_pageFact 32 = .ok (.invokestatic 168, 3) := by decide +kernel
theorem dX4_pageFact_35 : decode cX4_pageFact 35 = .ok (.istore 4, 2) := by decide +kernel
theorem dX4_pageFact_37 : decode cX4_pageFact 37 = .ok (.iload_n 3, 1) := by decide +kernel
theorem dX4_pageFact_38 : decode cX4_pageFact 38 = .ok (.ifCond .ne 13, 3) := by decide +kernel
theorem dX4_pageFact_41 : decode cX4_pageFact 41 = .ok (.aload_n 0, 1) := by decide +kernel
theorem dX4_pageFact_42 : decode cX4_pageFact 42 = .ok (.getfield 12, 3) := by decide +kernel
theorem dX4_pageFact_45 : decode cX4_pageFact 45 = .ok (.iload 4, 2) := by decide +kernel
theorem dX4_pageFact_47 : decode cX4_pageFact 47 = .ok (.invokevirtual 198, 3) := by decide +kernel
theorem dX4_pageFact_50 : decode cX4_pageFact 50 = .ok (.ireturn, 1) := by decide +kernel
theorem dX4_pageFact_51 : decode cX4_pageFact 51 = .ok (.iload_n 3, 1) := by decide +kernel
theorem dX4_pageFact_52 : decode cX4_pageFact 52 = .ok (.iconst 4, 1) := by decide +kernel
theorem dX4_pageFact_53 : decode cX4_pageFact 53 = .ok (.if_icmp .ne 11, 3) := by decide +kernel
theorem dX4_pageFact_56 : decode cX4_pageFact 56 = .ok (.getstatic 153, 3) := by decide +kernel
theorem dX4_pageFact_59 : decode cX4_pageFact 59 = .ok (.iload_n 2, 1) := by decide +kernel
theorem dX4_pageFact_60 : decode cX4_pageFact 60 = .ok (.invokestatic 156, 3) := by decide +kernel
theorem dX4_pageFact_63 : decode cX4_pageFact 63 = .ok (.ireturn, 1) := by decide +kernel
theorem dX4_pageFact_64 : decode cX4_pageFact 64 = .ok (.iload_n 3, 1) := by decide +kernel
theorem dX4_pageFact_65 : decode cX4_pageFact 65 = .ok (.iconst 5, 1) := by decide +kernel
theorem dX4_pageFact_66 : decode cX4_pageFact 66 = .ok (.if_icmp .ne 11, 3) := by decide +kernel
theorem dX4_pageFact_69 : decode cX4_pageFact 69 = .ok (.getstatic 160, 3) := by decide +kernel
theorem dX4_pageFact_72 : decode cX4_pageFact 72 = .ok (.iload_n 2, 1) := by decide +kernel
theorem dX4_pageFact_73 : decode cX4_pageFact 73 = .ok (.invokestatic 156, 3) := by decide +kernel
theorem dX4_pageFact_76 : decode cX4_pageFact 76 = .ok (.ireturn, 1) := by decide +kernel
theorem dX4_pageFact_77 : decode cX4_pageFact 77 = .ok (.aload_n 0, 1) := by decide +kernel
theorem dX4_pageFact_78 : decode cX4_pageFact 78 = .ok (.getfield 12, 3) := by decide +kernel
theorem dX4_pageFact_81 : decode cX4_pageFact 81 = .ok (.iload 4, 2) := by decide +kernel
theorem dX4_pageFact_83 : decode cX4_pageFact 83 = .ok (.invokevirtual 198, 3) := by decide +kernel
theorem dX4_pageFact_86 : decode cX4_pageFact 86 = .ok (.iconst 2, 1) := by decide +kernel
theorem dX4_pageFact_87 : decode cX4_pageFact 87 = .ok (.if_icmp .ne 16, 3) := by decide +kernel
theorem dX4_pageFact_90 : decode cX4_pageFact 90 = .ok (.aload_n 0, 1) := by decide +kernel
theorem dX4_pageFact_91 : decode cX4_pageFact 91 = .ok (.getfield 12, 3) := by decide +kernel
theorem dX4_pageFact_94 : decode cX4_pageFact 94 = .ok (.iload 4, 2) := by decide +kernel
theorem dX4_pageFact_96 : decode cX4_pageFact 96 = .ok (.iload_n 3, 1) := by decide +kernel
theorem dX4_pageFact_97 : decode cX4_pageFact 97 = .ok (.invokevirtual 277, 3) := by decide +kernel
theorem dX4_pageFact_100 : decode cX4_pageFact 100 = .ok (.goto 5, 3) := by decide +kernel
theorem dX4_pageFact_103 : decode cX4_pageFact 103 = .ok (.bipush (-4), 2) := by decide +kernel
theorem dX4_pageFact_105 : decode cX4_pageFact 105 = .ok (.ireturn, 1) := by decide +kernel
theorem dX4_backupFact_0 : decode cX4_backupFact 0 = .ok (.iload_n 1, 1) := by decide +kernel
theorem dX4_backupFact_1 : decode cX4_backupFact 1 = .ok (.iconst 0, 1) := by decide +kernel
theorem dX4_backupFact_2 : decode cX4_backupFact 2 = .ok (.iconst 1, 1) := by decide +kernel
theorem dX4_backupFact_3 : decode cX4_backupFact 3 = .ok (.invokestatic 83, 3) := by decide +kernel
theorem dX4_backupFact_6 : decode cX4_backupFact 6 = .ok (.ifCond .eq 22, 3) := by decide +kernel
theorem dX4_backupFact_9 : decode cX4_backupFact 9 = .ok (.iload_n 2, 1) := by decide +kernel
theorem dX4_backupFact_10 : decode cX4_backupFact 10 = .ok (.iconst 0, 1) := by decide +kernel
theorem dX4_backupFact_11 : decode cX4_backupFact 11 = .ok (.bipush 7, 2) := by decide +kernel
theorem dX4_backupFact_13 : decode cX4_backupFact 13 = .ok (.invokestatic 83, 3) := by decide +kernel
theorem dX4_backupFact_16 : decode cX4_backupFact 16 = .ok (.ifCond .eq 12, 3) := by decide +kernel
theorem dX4_backupFact_19 : decode cX4_backupFact 19 = .ok (.iload_n 3, 1) := by decide +kernel
theorem dX4_backupFact_20 : decode cX4_backupFact 20 = .ok (.iconst 0, 1) := by decide +kernel
theorem dX4_backupFact_21 : decode cX4_backupFact 21 = .ok (.iconst 3, 1) := by decide +kernel
theorem dX4_backupFact_22 : decode cX4_backupFact 22 = .ok (.invokestatic 83, 3) := by decide +kernel
theorem dX4_backupFact_25 : decode cX4_backupFact 25 = .ok (.ifCond .ne 5, 3) := by decide +kernel
theorem dX4_backupFact_28 : decode cX4_backupFact 28 = .ok (.iconst (-1), 1) := by decide +kernel
theorem dX4_backupFact_29 : decode cX4_backupFact 29 = .ok (.ireturn, 1) := by decide +kernel
theorem dX4_backupFact_30 : decode cX4_backupFact 30 = .ok (.iload_n 1, 1) := by decide +kernel
theorem dX4_backupFact_31 : decode cX4_backupFact 31 = .ok (.bipush 16, 2) := by decide +kernel
theorem dX4_backupFact_33 : decode cX4_backupFact 33 = .ok (.iload_n 2, 1) := by decide +kernel
theorem dX4_backupFact_34 : decode cX4_backupFact 34 = .ok (.iadd, 1) := by decide +kernel
theorem dX4_backupFact_35 : decode cX4_backupFact 35 = .ok (.invokestatic 168, 3) := by decide +kernel
theorem dX4_backupFact_38 : decode cX4_backupFact 38 = .ok (.istore 4, 2) := by decide +kernel
theorem dX4_backupFact_40 : decode cX4_backupFact 40 = .ok (.aload_n 0, 1) := by decide +kernel
theorem dX4_backupFact_41 : decode cX4_backupFact 41 = .ok (.getfield 12, 3) := by decide +kernel
theorem dX4_backupFact_44 : decode cX4_backupFact 44 = .ok (.iload 4, 2) := by decide +kernel
theorem dX4_backupFact_46 : decode cX4_backupFact 46 = .ok (.invokevirtual 198, 3) := by decide +kernel
theorem dX4_backupFact_49 : decode cX4_backupFact 49 = .ok (.ifCond .ne 6, 3) := by decide +kernel
theorem dX4_backupFact_52 : decode cX4_backupFact 52 = .ok (.bipush (-4), 2) := by decide +kernel
theorem dX4_backupFact_54 : decode cX4_backupFact 54 = .ok (.ireturn, 1) := by decide +kernel
theorem dX4_backupFact_55 : decode cX4_backupFact 55 = .ok (.iload_n 3, 1) := by decide +kernel
theorem dX4_backupFact_56 : decode cX4_backupFact 56 = .ok (.ifCond .ne 22, 3) := by decide +kernel
theorem dX4_backupFact_59 : decode cX4_backupFact 59 = .ok (.aload_n 0, 1) := by decide +kernel
theorem dX4_backupFact_60 : decode cX4_backupFact 60 = .ok (.getfield 12, 3) := by decide +kernel
theorem dX4_backupFact_63 : decode cX4_backupFact 63 = .ok (.iload 4, 2) := by decide +kernel
theorem dX4_backupFact_65 : decode cX4_backupFact 65 = .ok (.invokevirtual 198, 3) := by decide +kernel
theorem dX4_backupFact_68 : decode cX4_backupFact 68 = .ok (.iconst 2, 1) := by decide +kernel
theorem dX4_backupFact_69 : decode cX4_backupFact 69 = .ok (.if_icmp .ne 7, 3) := by decide +kernel
theorem dX4_backupFact_72 : decode cX4_backupFact 72 = .ok (.iconst 1, 1) := by decide +kernel
theorem dX4_backupFact_73 : decode cX4_backupFact 73 = .ok (.goto 4, 3) := by decide +kernel
theorem dX4_backupFact_76 : decode cX4_backupFact 76 = .ok (.iconst 0, 1) := by decide +kernel
theorem dX4_backupFact_77 : decode cX4_backupFact 77 = .ok (.ireturn, 1) := by decide +kernel
theorem dX4_backupFact_78 : decode cX4_backupFact 78 = .ok (.aload_n 0, 1) := by decide +kernel
theorem dX4_backupFact_79 : decode cX4_backupFact 79 = .ok (.getfield 12, 3) := by decide +kernel
theorem dX4_backupFact_82 : decode cX4_backupFact 82 = .ok (.iload 4, 2) := by decide +kernel
theorem dX4_backupFact_84 : decode cX4_backupFact 84 = .ok (.iload_n 3, 1) := by decide +kernel
theorem dX4_backupFact_85 : decode cX4_backupFact 85 = .ok (.invokevirtual 277, 3) := by decide +kernel
theorem dX4_backupFact_88 : decode cX4_backupFact 88 = .ok (.ireturn, 1) := by decide +kernel
theorem dX4_requestFact_0 : decode cX4_requestFact 0 = .ok (.iload_n 1, 1) := by decide +kernel
theorem dX4_requestFact_1 : decode cX4_requestFact 1 = .ok (.ifCond .lt 12, 3) := by decide +kernel
theorem dX4_requestFact_4 : decode cX4_requestFact 4 = .ok (.iload_n 2, 1) := by decide +kernel
theorem dX4_requestFact_5 : decode cX4_requestFact 5 = .ok (.iconst 0, 1) := by decide +kernel
theorem dX4_requestFact_6 : decode cX4_requestFact 6 = .ok (.iconst 2, 1) := by decide +kernel
theorem dX4_requestFact_7 : decode cX4_requestFact 7 = .ok (.invokestatic 83, 3) := by decide +kernel
theorem dX4_requestFact_10 : decode cX4_requestFact 10 = .ok (.ifCond .ne 5, 3) := by decide +kernel
theorem dX4_requestFact_13 : decode cX4_requestFact 13 = .ok (.iconst (-1), 1) := by decide +kernel
theorem dX4_requestFact_14 : decode cX4_requestFact 14 = .ok (.ireturn, 1) := by decide +kernel
theorem dX4_requestFact_15 : decode cX4_requestFact 15 = .ok (.iload_n 1, 1) := by decide +kernel
theorem dX4_requestFact_16 : decode cX4_requestFact 16 = .ok (.aload_n 0, 1) := by decide +kernel
theorem dX4_requestFact_17 : decode cX4_requestFact 17 = .ok (.getfield 21, 3) := by decide +kernel
theorem dX4_requestFact_20 : decode cX4_requestFact 20 = .ok (.invokevirtual 87, 3) := by decide +kernel
theorem dX4_requestFact_23 : decode cX4_requestFact 23 = .ok (.if_icmp .lt 6, 3) := by decide +kernel
theorem dX4_requestFact_26 : decode cX4_requestFact 26 = .ok (.bipush (-4), 2) := by decide +kernel
theorem dX4_requestFact_28 : decode cX4_requestFact 28 = .ok (.ireturn, 1) := by decide +kernel
theorem dX4_requestFact_29 : decode cX4_requestFact 29 = .ok (.iload_n 2, 1) := by decide +kernel
theorem dX4_requestFact_30 : decode cX4_requestFact 30 = .ok (.ifCond .ne 12, 3) := by decide +kernel
theorem dX4_requestFact_33 : decode cX4_requestFact 33 = .ok (.aload_n 0, 1) := by decide +kernel
theorem dX4_requestFact_34 : decode cX4_requestFact 34 = .ok (.getfield 21, 3) := by decide +kernel
theorem dX4_requestFact_37 : decode cX4_requestFact 37 = .ok (.iload_n 1, 1) := by decide +kernel
theorem dX4_requestFact_38 : decode cX4_requestFact 38 = .ok (.invokevirtual 143, 3) := by decide +kernel
theorem dX4_requestFact_41 : decode cX4_requestFact 41 = .ok (.ireturn, 1) := by decide +kernel
theorem dX4_requestFact_42 : decode cX4_requestFact 42 = .ok (.iload_n 2, 1) := by decide +kernel
theorem dX4_requestFact_43 : decode cX4_requestFact 43 = .ok (.iconst 1, 1) := by decide +kernel
theorem dX4_requestFact_44 : decode cX4_requestFact 44 = .ok (.if_icmp .ne 14, 3) := by decide +kernel
theorem dX4_requestFact_47 : decode cX4_requestFact 47 = .ok (.aload_n 0, 1) := by decide +kernel
theorem dX4_requestFact_48 : decode cX4_requestFact 48 = .ok (.getfield 21, 3) := by decide +kernel
theorem dX4_requestFact_51 : decode cX4_requestFact 51 = .ok (.iload_n 1, 1) := by decide +kernel
theorem dX4_requestFact_52 : decode cX4_requestFact 52 = .ok (.invokevirtual 192, 3) := by decide +kernel
theorem dX4_requestFact_55 : decode cX4_requestFact 55 = .ok (.goto 11, 3) := by decide +kernel
theorem dX4_requestFact_58 : decode cX4_requestFact 58 = .ok (.aload_n 0, 1) := by decide +kernel
theorem dX4_requestFact_59 : decode cX4_requestFact 59 = .ok (.getfield 21, 3) := by decide +kernel
theorem dX4_requestFact_62 : decode cX4_requestFact 62 = .ok (.iload_n 1, 1) := by decide +kernel
theorem dX4_requestFact_63 : decode cX4_requestFact 63 = .ok (.invokevirtual 139, 3) := by decide +kernel
theorem dX4_requestFact_66 : decode cX4_requestFact 66 = .ok (.ireturn, 1) := by decide +kernel
theorem dX4_numberOf_0 : decode cX4_numberOf 0 = .ok (.iload_n 1, 1) := by decide +kernel
theorem dX4_numberOf_1 : decode cX4_numberOf 1 = .ok (.tableswitch 231 0 15 #[79, 87, 100, 105, 110, 118, 134, 157, 165, 173, 181, 189, 197, 206, 215, 223], 79) := by decide +kernel
theorem dX4_numberOf_80 : decode cX4_numberOf 80 = .ok (.aload_n 0, 1) := by decide +kernel
theorem dX4_numberOf_81 : decode cX4_numberOf 81 = .ok (.getfield 35, 3) := by decide +kernel
theorem dX4_numberOf_84 : decode cX4_numberOf 84 = .ok (.getfield 95, 3) := by decide +kernel
theorem dX4_numberOf_87 : decode cX4_numberOf 87 = .ok (.ireturn, 1) := by decide +kernel
theorem dX4_numberOf_88 : decode cX4_numberOf 88 = .ok (.aload_n 0, 1) := by decide +kernel
theorem dX4_numberOf_89 : decode cX4_numberOf 89 = .ok (.getfield 52, 3) := by decide +kernel
theorem dX4_numberOf_92 : decode cX4_numberOf 92 = .ok (.ifCond .eq 7, 3) := by decide +kernel
theorem dX4_numberOf_95 : decode cX4_numberOf 95 = .ok (.iconst 1, 1) := by decide +kernel
theorem dX4_numberOf_96 : decode cX4_numberOf 96 = .ok (.goto 4, 3) := by decide +kernel
theorem dX4_numberOf_99 : decode cX4_numberOf 99 = .ok (.iconst 0, 1) := by decide +kernel
theorem dX4_numberOf_100 : decode cX4_numberOf 100 = .ok (.ireturn, 1) := by decide +kernel
theorem dX4_numberOf_101 : decode cX4_numberOf 101 = .ok (.aload_n 0, 1) := by decide +kernel
theorem dX4_numberOf_102 : decode cX4_numberOf 102 = .ok (.getfield 76, 3) := by decide +kernel
theorem dX4_numberOf_105 : decode cX4_numberOf 105 = .ok (.ireturn, 1) := by decide +kernel
theorem dX4_numberOf_106 : decode cX4_numberOf 106 = .ok (.aload_n 0, 1) := by decide +kernel
theorem dX4_numberOf_107 : decode cX4_numberOf 107 = .ok (.getfield 80, 3) := by decide +kernel
theorem dX4_numberOf_110 : decode cX4_numberOf 110 = .ok (.ireturn, 1) := by decide +kernel
theorem dX4_numberOf_111 : decode cX4_numberOf 111 = .ok (.aload_n 0, 1) := by decide +kernel
theorem dX4_numberOf_112 : decode cX4_numberOf 112 = .ok (.getfield 21, 3) := by decide +kernel
theorem dX4_numberOf_115 : decode cX4_numberOf 115 = .ok (.invokevirtual 87, 3) := by decide +kernel
theorem dX4_numberOf_118 : decode cX4_numberOf 118 = .ok (.ireturn, 1) := by decide +kernel
theorem dX4_numberOf_119 : decode cX4_numberOf 119 = .ok (.aload_n 0, 1) := by decide +kernel
theorem dX4_numberOf_120 : decode cX4_numberOf 120 = .ok (.getfield 28, 3) := by decide +kernel
theorem dX4_numberOf_123 : decode cX4_numberOf 123 = .ok (.getfield 105, 3) := by decide +kernel
theorem dX4_numberOf_126 : decode cX4_numberOf 126 = .ok (.ifCond .eq 7, 3) := by decide +kernel
theorem dX4_numberOf_129 : decode cX4_numberOf 129 = .ok (.iconst 1, 1) := by decide +kernel
theorem dX4_numberOf_130 : decode cX4_numberOf 130 = .ok (.goto 4, 3) := by decide +kernel
theorem dX4_numberOf_133 : decode cX4_numberOf 133 = .ok (.iconst 0, 1) := by decide +kernel
theorem dX4_numberOf_134 : decode cX4_numberOf 134 = .ok (.ireturn, 1) := by decide +kernel
theorem dX4_numberOf_135 : decode cX4_numberOf 135 = .ok (.aload_n 0, 1) := by decide +kernel
theorem dX4_numberOf_136 : decode cX4_numberOf 136 = .ok (.getfield 28, 3) := by decide +kernel
theorem dX4_numberOf_139 : decode cX4_numberOf 139 = .ok (.getfield 105, 3) := by decide +kernel
theorem dX4_numberOf_142 : decode cX4_numberOf 142 = .ok (.ifCond .eq 13, 3) := by decide +kernel
theorem dX4_numberOf_145 : decode cX4_numberOf 145 = .ok (.aload_n 0, 1) := by decide +kernel
theorem dX4_numberOf_146 : decode cX4_numberOf 146 = .ok (.getfield 28, 3) := by decide +kernel
theorem dX4_numberOf_149 : decode cX4_numberOf 149 = .ok (.getfield 111, 3) := by decide +kernel
theorem dX4_numberOf_152 : decode cX4_numberOf 152 = .ok (.goto 5, 3) := by decide +kernel
theorem dX4_numberOf_155 : decode cX4_numberOf 155 = .ok (.bipush (-4), 2) := by decide +kernel
theorem dX4_numberOf_157 : decode cX4_numberOf 157 = .ok (.ireturn, 1) := by decide +kernel
theorem dX4_numberOf_158 : decode cX4_numberOf 158 = .ok (.aload_n 0, 1) := by decide +kernel
theorem dX4_numberOf_159 : decode cX4_numberOf 159 = .ok (.getfield 35, 3) := by decide +kernel
theorem dX4_numberOf_162 : decode cX4_numberOf 162 = .ok (.getfield 98, 3) := by decide +kernel
theorem dX4_numberOf_165 : decode cX4_numberOf 165 = .ok (.ireturn, 1) := by decide +kernel
theorem dX4_numberOf_166 : decode cX4_numberOf 166 = .ok (.aload_n 0, 1) := by decide +kernel
theorem dX4_numberOf_167 : decode cX4_numberOf 167 = .ok (.getfield 35, 3) := by decide +kernel
theorem dX4_numberOf_170 : decode cX4_numberOf 170 = .ok (.getfield 234, 3) := by decide +kernel
theorem dX4_numberOf_173 : decode cX4_numberOf 173 = .ok (.ireturn, 1) := by decide +kernel
theorem dX4_numberOf_174 : decode cX4_numberOf 174 = .ok (.aload_n 0, 1) := by decide +kernel
theorem dX4_numberOf_175 : decode cX4_numberOf 175 = .ok (.getfield 35, 3) := by decide +kernel
theorem dX4_numberOf_178 : decode cX4_numberOf 178 = .ok (.getfield 243, 3) := by decide +kernel
theorem dX4_numberOf_181 : decode cX4_numberOf 181 = .ok (.ireturn, 1) := by decide +kernel
theorem dX4_numberOf_182 : decode cX4_numberOf 182 = .ok (.aload_n 0, 1) := by decide +kernel
theorem dX4_numberOf_183 : decode cX4_numberOf 183 = .ok (.getfield 12, 3) := by decide +kernel
theorem dX4_numberOf_186 : decode cX4_numberOf 186 = .ok (.invokevirtual 280, 3) := by decide +kernel
theorem dX4_numberOf_189 : decode cX4_numberOf 189 = .ok (.ireturn, 1) := by decide +kernel
theorem dX4_numberOf_190 : decode cX4_numberOf 190 = .ok (.aload_n 0, 1) := by decide +kernel
theorem dX4_numberOf_191 : decode cX4_numberOf 191 = .ok (.getfield 12, 3) := by decide +kernel
theorem dX4_numberOf_194 : decode cX4_numberOf 194 = .ok (.invokevirtual 283, 3) := by decide +kernel
theorem dX4_numberOf_197 : decode cX4_numberOf 197 = .ok (.ireturn, 1) := by decide +kernel
theorem dX4_numberOf_198 : decode cX4_numberOf 198 = .ok (.aload_n 0, 1) := by decide +kernel
theorem dX4_numberOf_199 : decode cX4_numberOf 199 = .ok (.getfield 46, 3) := by decide +kernel
theorem dX4_numberOf_202 : decode cX4_numberOf 202 = .ok (.iconst 0, 1) := by decide +kernel
theorem dX4_numberOf_203 : decode cX4_numberOf 203 = .ok (.invokestatic 156, 3) := by decide +kernel
theorem dX4_numberOf_206 : decode cX4_numberOf 206 = .ok (.ireturn, 1) := by decide +kernel
theorem dX4_numberOf_207 : decode cX4_numberOf 207 = .ok (.aload_n 0, 1) := by decide +kernel
theorem dX4_numberOf_208 : decode cX4_numberOf 208 = .ok (.getfield 46, 3) := by decide +kernel
theorem dX4_numberOf_211 : decode cX4_numberOf 211 = .ok (.iconst 1, 1) := by decide +kernel
theorem dX4_numberOf_212 : decode cX4_numberOf 212 = .ok (.invokestatic 156, 3) := by decide +kernel
theorem dX4_numberOf_215 : decode cX4_numberOf 215 = .ok (.ireturn, 1) := by decide +kernel
theorem dX4_numberOf_216 : decode cX4_numberOf 216 = .ok (.aload_n 0, 1) := by decide +kernel
theorem dX4_numberOf_217 : decode cX4_numberOf 217 = .ok (.getfield 35, 3) := by decide +kernel
theorem dX4_numberOf_220 : decode cX4_numberOf 220 = .ok (.getfield 231, 3) := by decide +kernel
theorem dX4_numberOf_223 : decode cX4_numberOf 223 = .ok (.ireturn, 1) := by decide +kernel
theorem dX4_numberOf_224 : decode cX4_numberOf 224 = .ok (.aload_n 0, 1) := by decide +kernel
theorem dX4_numberOf_225 : decode cX4_numberOf 225 = .ok (.getfield 35, 3) := by decide +kernel
theorem dX4_numberOf_228 : decode cX4_numberOf 228 = .ok (.getfield 211, 3) := by decide +kernel
theorem dX4_numberOf_231 : decode cX4_numberOf 231 = .ok (.ireturn, 1) := by decide +kernel
theorem dX4_numberOf_232 : decode cX4_numberOf 232 = .ok (.aload_n 0, 1) := by decide +kernel
theorem dX4_numberOf_233 : decode cX4_numberOf 233 = .ok (.iload_n 1, 1) := by decide +kernel
theorem dX4_numberOf_234 : decode cX4_numberOf 234 = .ok (.invokevirtual 286, 3) := by decide +kernel
theorem dX4_numberOf_237 : decode cX4_numberOf 237 = .ok (.ireturn, 1) := by decide +kernel
theorem dX4_settingOrSlowness_0 : decode cX4_settingOrSlowness 0 = .ok (.iload_n 1, 1) := by decide +kernel
theorem dX4_settingOrSlowness_1 : decode cX4_settingOrSlowness 1 = .ok (.bipush 20, 2) := by decide +kernel
theorem dX4_settingOrSlowness_3 : decode cX4_settingOrSlowness 3 = .ok (.bipush 23, 2) := by decide +kernel
theorem dX4_settingOrSlowness_5 : decode cX4_settingOrSlowness 5 = .ok (.invokestatic 83, 3) := by decide +kernel
theorem dX4_settingOrSlowness_8 : decode cX4_settingOrSlowness 8 = .ok (.ifCond .eq 15, 3) := by decide +kernel
theorem dX4_settingOrSlowness_11 : decode cX4_settingOrSlowness 11 = .ok (.aload_n 0, 1) := by decide +kernel
theorem dX4_settingOrSlowness_12 : decode cX4_settingOrSlowness 12 = .ok (.getfield 39, 3) := by decide +kernel
theorem dX4_settingOrSlowness_15 : decode cX4_settingOrSlowness 15 = .ok (.iload_n 1, 1) := by decide +kernel
theorem dX4_settingOrSlowness_16 : decode cX4_settingOrSlowness 16 = .ok (.bipush 20, 2) := by decide +kernel
theorem dX4_settingOrSlowness_18 : decode cX4_settingOrSlowness 18 = .ok (.isub, 1) := by decide +kernel
theorem dX4_settingOrSlowness_19 : decode cX4_settingOrSlowness 19 = .ok (.invokestatic 156, 3) := by decide +kernel
theorem dX4_settingOrSlowness_22 : decode cX4_settingOrSlowness 22 = .ok (.ireturn, 1) := by decide +kernel
theorem dX4_settingOrSlowness_23 : decode cX4_settingOrSlowness 23 = .ok (.iload_n 1, 1) := by decide +kernel
theorem dX4_settingOrSlowness_24 : decode cX4_settingOrSlowness 24 = .ok (.bipush 30, 2) := by decide +kernel
theorem dX4_settingOrSlowness_26 : decode cX4_settingOrSlowness 26 = .ok (.bipush 37, 2) := by decide +kernel
theorem dX4_settingOrSlowness_28 : decode cX4_settingOrSlowness 28 = .ok (.invokestatic 83, 3) := by decide +kernel
theorem dX4_settingOrSlowness_31 : decode cX4_settingOrSlowness 31 = .ok (.ifCond .eq 15, 3) := by decide +kernel
theorem dX4_settingOrSlowness_34 : decode cX4_settingOrSlowness 34 = .ok (.aload_n 0, 1) := by decide +kernel
theorem dX4_settingOrSlowness_35 : decode cX4_settingOrSlowness 35 = .ok (.getfield 43, 3) := by decide +kernel
theorem dX4_settingOrSlowness_38 : decode cX4_settingOrSlowness 38 = .ok (.iload_n 1, 1) := by decide +kernel
theorem dX4_settingOrSlowness_39 : decode cX4_settingOrSlowness 39 = .ok (.bipush 30, 2) := by decide +kernel
theorem dX4_settingOrSlowness_41 : decode cX4_settingOrSlowness 41 = .ok (.isub, 1) := by decide +kernel
theorem dX4_settingOrSlowness_42 : decode cX4_settingOrSlowness 42 = .ok (.invokestatic 156, 3) := by decide +kernel
theorem dX4_settingOrSlowness_45 : decode cX4_settingOrSlowness 45 = .ok (.ireturn, 1) := by decide +kernel
theorem dX4_settingOrSlowness_46 : decode cX4_settingOrSlowness 46 = .ok (.iconst (-1), 1) := by decide +kernel
theorem dX4_settingOrSlowness_47 : decode cX4_settingOrSlowness 47 = .ok (.ireturn, 1) := by decide +kernel
theorem dX5_init_0 : decode cX5_init 0 = .ok (.aload_n 0, 1) := by decide +kernel
theorem dX5_init_1 : decode cX5_init 1 = .ok (.invokespecial 1, 3) := by decide +kernel
theorem dX5_init_4 : decode cX5_init 4 = .ok (.return_, 1) := by decide +kernel
theorem dX5_copyFrom_0 : decode cX5_copyFrom 0 = .ok (.aload_n 0, 1) := by decide +kernel
theorem dX5_copyFrom_1 : decode cX5_copyFrom 1 = .ok (.aload_n 1, 1) := by decide +kernel
theorem dX5_copyFrom_2 : decode cX5_copyFrom 2 = .ok (.getfield 7, 3) := by decide +kernel
theorem dX5_copyFrom_5 : decode cX5_copyFrom 5 = .ok (.putfield 7, 3) := by decide +kernel
theorem dX5_copyFrom_8 : decode cX5_copyFrom 8 = .ok (.aload_n 0, 1) := by decide +kernel
theorem dX5_copyFrom_9 : decode cX5_copyFrom 9 = .ok (.aload_n 1, 1) := by decide +kernel
theorem dX5_copyFrom_10 : decode cX5_copyFrom 10 = .ok (.getfield 13, 3) := by decide +kernel
theorem dX5_copyFrom_13 : decode cX5_copyFrom 13 = .ok (.putfield 13, 3) := by decide +kernel
theorem dX5_copyFrom_16 : decode cX5_copyFrom 16 = .ok (.aload_n 0, 1) := by decide +kernel
theorem dX5_copyFrom_17 : decode cX5_copyFrom 17 = .ok (.aload_n 1, 1) := by decide +kernel
theorem dX5_copyFrom_18 : decode cX5_copyFrom 18 = .ok (.getfield 16, 3) := by decide +kernel
theorem dX5_copyFrom_21 : decode cX5_copyFrom 21 = .ok (.putfield 16, 3) := by decide +kernel
theorem dX5_copyFrom_24 : decode cX5_copyFrom 24 = .ok (.aload_n 0, 1) := by decide +kernel
theorem dX5_copyFrom_25 : decode cX5_copyFrom 25 = .ok (.aload_n 1, 1) := by decide +kernel
theorem dX5_copyFrom_26 : decode cX5_copyFrom 26 = .ok (.getfield 19, 3) := by decide +kernel
theorem dX5_copyFrom_29 : decode cX5_copyFrom 29 = .ok (.putfield 19, 3) := by decide +kernel
theorem dX5_copyFrom_32 : decode cX5_copyFrom 32 = .ok (.aload_n 0, 1) := by decide +kernel
theorem dX5_copyFrom_33 : decode cX5_copyFrom 33 = .ok (.aload_n 1, 1) := by decide +kernel
theorem dX5_copyFrom_34 : decode cX5_copyFrom 34 = .ok (.getfield 22, 3) := by decide +kernel
theorem dX5_copyFrom_37 : decode cX5_copyFrom 37 = .ok (.putfield 22, 3) := by decide +kernel
theorem dX5_copyFrom_40 : decode cX5_copyFrom 40 = .ok (.aload_n 0, 1) := by decide +kernel
theorem dX5_copyFrom_41 : decode cX5_copyFrom 41 = .ok (.aload_n 1, 1) := by decide +kernel
theorem dX5_copyFrom_42 : decode cX5_copyFrom 42 = .ok (.getfield 25, 3) := by decide +kernel
theorem dX5_copyFrom_45 : decode cX5_copyFrom 45 = .ok (.putfield 25, 3) := by decide +kernel
theorem dX5_copyFrom_48 : decode cX5_copyFrom 48 = .ok (.aload_n 0, 1) := by decide +kernel
theorem dX5_copyFrom_49 : decode cX5_copyFrom 49 = .ok (.aload_n 1, 1) := by decide +kernel
theorem dX5_copyFrom_50 : decode cX5_copyFrom 50 = .ok (.getfield 28, 3) := by decide +kernel
theorem dX5_copyFrom_53 : decode cX5_copyFrom 53 = .ok (.putfield 28, 3) := by decide +kernel
theorem dX5_copyFrom_56 : decode cX5_copyFrom 56 = .ok (.return_, 1) := by decide +kernel
theorem dX6_init_0 : decode cX6_init 0 = .ok (.aload_n 0, 1) := by decide +kernel
theorem dX6_init_1 : decode cX6_init 1 = .ok (.invokespecial 3, 3) := by decide +kernel
theorem dX6_init_4 : decode cX6_init 4 = .ok (.aload_n 0, 1) := by decide +kernel
theorem dX6_init_5 : decode cX6_init 5 = .ok (.bipush 60, 2) := by decide +kernel
theorem dX6_init_7 : decode cX6_init 7 = .ok (.newarray .int, 2) := by decide +kernel
theorem dX6_init_9 : decode cX6_init 9 = .ok (.putfield 9, 3) := by decide +kernel
theorem dX6_init_12 : decode cX6_init 12 = .ok (.return_, 1) := by decide +kernel
theorem dX6_length_0 : decode cX6_length 0 = .ok (.aload_n 0, 1) := by decide +kernel
theorem dX6_length_1 : decode cX6_length 1 = .ok (.getfield 15, 3) := by decide +kernel
theorem dX6_length_4 : decode cX6_length 4 = .ok (.ireturn, 1) := by decide +kernel
theorem dX6_append_0 : decode cX6_append 0 = .ok (.iload_n 1, 1) := by decide +kernel
theorem dX6_append_1 : decode cX6_append 1 = .ok (.bipush 32, 2) := by decide +kernel
theorem dX6_append_3 : decode cX6_append 3 = .ok (.bipush 126, 2) := by decide +kernel
theorem dX6_append_5 : decode cX6_append 5 = .ok (.invokestatic 19, 3) := by decide +kernel
theorem dX6_append_8 : decode cX6_append 8 = .ok (.ifCond .ne 5, 3) := by decide +kernel
theorem dX6_append_11 : decode cX6_append 11 = .ok (.iconst (-1), 1) := by decide +kernel
theorem dX6_append_12 : decode cX6_append 12 = .ok (.ireturn, 1) := by decide +kernel
theorem dX6_append_13 : decode cX6_append 13 = .ok (.aload_n 0, 1) := by decide +kernel
theorem dX6_append_14 : decode cX6_append 14 = .ok (.getfield 15, 3) := by decide +kernel
theorem dX6_append_17 : decode cX6_append 17 = .ok (.bipush 60, 2) := by decide +kernel
theorem dX6_append_19 : decode cX6_append 19 = .ok (.if_icmp .lt 6, 3) := by decide +kernel
theorem dX6_append_22 : decode cX6_append 22 = .ok (.bipush (-3), 2) := by decide +kernel
theorem dX6_append_24 : decode cX6_append 24 = .ok (.ireturn, 1) := by decide +kernel
theorem dX6_append_25 : decode cX6_append 25 = .ok (.aload_n 0, 1) := by decide +kernel
theorem dX6_append_26 : decode cX6_append 26 = .ok (.getfield 9, 3) := by decide +kernel
theorem dX6_append_29 : decode cX6_append 29 = .ok (.aload_n 0, 1) := by decide +kernel
theorem dX6_append_30 : decode cX6_append 30 = .ok (.getfield 15, 3) := by decide +kernel
theorem dX6_append_33 : decode cX6_append 33 = .ok (.iload_n 1, 1) := by decide +kernel
theorem dX6_append_34 : decode cX6_append 34 = .ok (.invokestatic 23, 3) := by decide +kernel
theorem dX6_append_37 : decode cX6_append 37 = .ok (.aload_n 0, 1) := by decide +kernel
theorem dX6_append_38 : decode cX6_append 38 = .ok (.dup, 1) := by decide +kernel
theorem dX6_append_39 : decode cX6_append 39 = .ok (.getfield 15, 3) := by decide +kernel
theorem dX6_append_42 : decode cX6_append 42 = .ok (.iconst 1, 1) := by decide +kernel
theorem dX6_append_43 : decode cX6_append 43 = .ok (.iadd, 1) := by decide +kernel
theorem dX6_append_44 : decode cX6_append 44 = .ok (.putfield 15, 3) := by decide +kernel
theorem dX6_append_47 : decode cX6_append 47 = .ok (.aload_n 0, 1) := by decide +kernel
theorem dX6_append_48 : decode cX6_append 48 = .ok (.getfield 15, 3) := by decide +kernel
theorem dX6_append_51 : decode cX6_append 51 = .ok (.ireturn, 1) := by decide +kernel
theorem dX6_makeEmpty_0 : decode cX6_makeEmpty 0 = .ok (.aload_n 0, 1) := by decide +kernel
theorem dX6_makeEmpty_1 : decode cX6_makeEmpty 1 = .ok (.getfield 15, 3) := by decide +kernel
theorem dX6_makeEmpty_4 : decode cX6_makeEmpty 4 = .ok (.istore_n 1, 1) := by decide +kernel
theorem dX6_makeEmpty_5 : decode cX6_makeEmpty 5 = .ok (.aload_n 0, 1) := by decide +kernel
theorem dX6_makeEmpty_6 : decode cX6_makeEmpty 6 = .ok (.iconst 0, 1) := by decide +kernel
theorem dX6_makeEmpty_7 : decode cX6_makeEmpty 7 = .ok (.putfield 15, 3) := by decide +kernel
theorem dX6_makeEmpty_10 : decode cX6_makeEmpty 10 = .ok (.iload_n 1, 1) := by decide +kernel
theorem dX6_makeEmpty_11 : decode cX6_makeEmpty 11 = .ok (.ireturn, 1) := by decide +kernel
theorem dX6_rewind_0 : decode cX6_rewind 0 = .ok (.aload_n 0, 1) := by decide +kernel
theorem dX6_rewind_1 : decode cX6_rewind 1 = .ok (.iconst 0, 1) := by decide +kernel
theorem dX6_rewind_2 : decode cX6_rewind 2 = .ok (.putfield 27, 3) := by decide +kernel
theorem dX6_rewind_5 : decode cX6_rewind 5 = .ok (.return_, 1) := by decide +kernel
theorem dX6_hasMore_0 : decode cX6_hasMore 0 = .ok (.aload_n 0, 1) := by decide +kernel
theorem dX6_hasMore_1 : decode cX6_hasMore 1 = .ok (.getfield 27, 3) := by decide +kernel
theorem dX6_hasMore_4 : decode cX6_hasMore 4 = .ok (.aload_n 0, 1) := by decide +kernel
theorem dX6_hasMore_5 : decode cX6_hasMore 5 = .ok (.getfield 15, 3) := by decide +kernel
theorem dX6_hasMore_8 : decode cX6_hasMore 8 = .ok (.if_icmp .ge 7, 3) := by decide +kernel
theorem dX6_hasMore_11 : decode cX6_hasMore 11 = .ok (.iconst 1, 1) := by decide +kernel
theorem dX6_hasMore_12 : decode cX6_hasMore 12 = .ok (.goto 4, 3) := by decide +kernel
theorem dX6_hasMore_15 : decode cX6_hasMore 15 = .ok (.iconst 0, 1) := by decide +kernel
theorem dX6_hasMore_16 : decode cX6_hasMore 16 = .ok (.ireturn, 1) := by decide +kernel
theorem dX6_readCommand_0 : decode cX6_readCommand 0 = .ok (.aload_n 0, 1) := by decide +kernel
theorem dX6_readCommand_1 : decode cX6_readCommand 1 = .ok (.aload_n 0, 1) := by decide +kernel
theorem dX6_readCommand_2 : decode cX6_readCommand 2 = .ok (.invokevirtual 30, 3) := by decide +kernel
theorem dX6_readCommand_5 : decode cX6_readCommand 5 = .ok (.putfield 34, 3) := by decide +kernel
theorem dX6_readCommand_8 : decode cX6_readCommand 8 = .ok (.aload_n 0, 1) := by decide +kernel
theorem dX6_readCommand_9 : decode cX6_readCommand 9 = .ok (.dup, 1) := by decide +kernel
theorem dX6_readCommand_10 : decode cX6_readCommand 10 = .ok (.getfield 27, 3) := by decide +kernel
theorem dX6_readCommand_13 : decode cX6_readCommand 13 = .ok (.iconst 1, 1) := by decide +kernel
theorem dX6_readCommand_14 : decode cX6_readCommand 14 = .ok (.iadd, 1) := by decide +kernel
theorem dX6_readCommand_15 : decode cX6_readCommand 15 = .ok (.putfield 27, 3) := by decide +kernel
theorem dX6_readCommand_18 : decode cX6_readCommand 18 = .ok (.aload_n 0, 1) := by decide +kernel
theorem dX6_readCommand_19 : decode cX6_readCommand 19 = .ok (.getfield 34, 3) := by decide +kernel
theorem dX6_readCommand_22 : decode cX6_readCommand 22 = .ok (.invokestatic 37, 3) := by decide +kernel
theorem dX6_readCommand_25 : decode cX6_readCommand 25 = .ok (.istore_n 1, 1) := by decide +kernel
theorem dX6_readCommand_26 : decode cX6_readCommand 26 = .ok (.iload_n 1, 1) := by decide +kernel
theorem dX6_readCommand_27 : decode cX6_readCommand 27 = .ok (.ifCond .ge 5, 3) := by decide +kernel
theorem dX6_readCommand_30 : decode cX6_readCommand 30 = .ok (.iconst 0, 1) := by decide +kernel
theorem dX6_readCommand_31 : decode cX6_readCommand 31 = .ok (.ireturn, 1) := by decide +kernel
theorem dX6_readCommand_32 : decode cX6_readCommand 32 = .ok (.aload_n 0, 1) := by decide +kernel
theorem dX6_readCommand_33 : decode cX6_readCommand 33 = .ok (.iload_n 1, 1) := by decide +kernel
theorem dX6_readCommand_34 : decode cX6_readCommand 34 = .ok (.ifCond .le 10, 3) := by decide +kernel
theorem dX6_readCommand_37 : decode cX6_readCommand 37 = .ok (.aload_n 0, 1) := by decide +kernel
theorem dX6_readCommand_38 : decode cX6_readCommand 38 = .ok (.invokevirtual 41, 3) := by decide +kernel
theorem dX6_readCommand_41 : decode cX6_readCommand 41 = .ok (.goto 4, 3) := by decide +kernel
theorem dX6_readCommand_44 : decode cX6_readCommand 44 = .ok (.iconst 0, 1) := by decide +kernel
theorem dX6_readCommand_45 : decode cX6_readCommand 45 = .ok (.putfield 44, 3) := by decide +kernel
theorem dX6_readCommand_48 : decode cX6_readCommand 48 = .ok (.aload_n 0, 1) := by decide +kernel
theorem dX6_readCommand_49 : decode cX6_readCommand 49 = .ok (.getfield 44, 3) := by decide +kernel
theorem dX6_readCommand_52 : decode cX6_readCommand 52 = .ok (.ifCond .ge 5, 3) := by decide +kernel
theorem dX6_readCommand_55 : decode cX6_readCommand 55 = .ok (.iconst 0, 1) := by decide +kernel
theorem dX6_readCommand_56 : decode cX6_readCommand 56 = .ok (.ireturn, 1) := by decide +kernel
theorem dX6_readCommand_57 : decode cX6_readCommand 57 = .ok (.iload_n 1, 1) := by decide +kernel
theorem dX6_readCommand_58 : decode cX6_readCommand 58 = .ok (.iconst 2, 1) := by decide +kernel
theorem dX6_readCommand_59 : decode cX6_readCommand 59 = .ok (.if_icmp .ne 14, 3) := by decide +kernel
theorem dX6_readCommand_62 : decode cX6_readCommand 62 = .ok (.aload_n 0, 1) := by decide +kernel
theorem dX6_readCommand_63 : decode cX6_readCommand 63 = .ok (.bipush 44, 2) := by decide +kernel
theorem dX6_readCommand_65 : decode cX6_readCommand 65 = .ok (.invokevirtual 47, 3) := by decide +kernel
theorem dX6_readCommand_68 : decode cX6_readCommand 68 = .ok (.ifCond .ne 5, 3) := by decide +kernel
theorem dX6_readCommand_71 : decode cX6_readCommand 71 = .ok (.iconst 0, 1) := by decide +kernel
theorem dX6_readCommand_72 : decode cX6_readCommand 72 = .ok (.ireturn, 1) := by decide +kernel
theorem dX6_readCommand_73 : decode cX6_readCommand 73 = .ok (.aload_n 0, 1) := by decide +kernel
theorem dX6_readCommand_74 : decode cX6_readCommand 74 = .ok (.iload_n 1, 1) := by decide +kernel
theorem dX6_readCommand_75 : decode cX6_readCommand 75 = .ok (.iconst 2, 1) := by decide +kernel
theorem dX6_readCommand_76 : decode cX6_readCommand 76 = .ok (.if_icmp .ne 10, 3) := by decide +kernel
theorem dX6_readCommand_79 : decode cX6_readCommand 79 = .ok (.aload_n 0, 1) := by decide +kernel
theorem dX6_readCommand_80 : decode cX6_readCommand 80 = .ok (.invokevirtual 41, 3) := by decide +kernel
theorem dX6_readCommand_83 : decode cX6_readCommand 83 = .ok (.goto 4, 3) := by decide +kernel
theorem dX6_readCommand_86 : decode cX6_readCommand 86 = .ok (.iconst 0, 1) := by decide +kernel
theorem dX6_readCommand_87 : decode cX6_readCommand 87 = .ok (.putfield 51, 3) := by decide +kernel
theorem dX6_readCommand_90 : decode cX6_readCommand 90 = .ok (.aload_n 0, 1) := by decide +kernel
theorem dX6_readCommand_91 : decode cX6_readCommand 91 = .ok (.getfield 51, 3) := by decide +kernel
theorem dX6_readCommand_94 : decode cX6_readCommand 94 = .ok (.ifCond .lt 16, 3) := by decide +kernel
theorem dX6_readCommand_97 : decode cX6_readCommand 97 = .ok (.aload_n 0, 1) := by decide +kernel
theorem dX6_readCommand_98 : decode cX6_readCommand 98 = .ok (.bipush 59, 2) := by decide +kernel
theorem dX6_readCommand_100 : decode cX6_readCommand 100 = .ok (.invokevirtual 47, 3) := by decide +kernel
theorem dX6_readCommand_103 : decode cX6_readCommand 103 = .ok (.ifCond .eq 7, 3) := by decide +kernel
theorem dX6_readCommand_106 : decode cX6_readCommand 106 = .ok (.iconst 1, 1) := by decide +kernel
theorem dX6_readCommand_107 : decode cX6_readCommand 107 = .ok (.goto 4, 3) := by decide +kernel
theorem dX6_readCommand_110 : decode cX6_readCommand 110 = .ok (.iconst 0, 1) := by decide +kernel
theorem dX6_readCommand_111 : decode cX6_readCommand 111 = .ok (.ireturn, 1) := by decide +kernel
theorem dX6_numbersOf_0 : decode cX6_numbersOf 0 = .ok (.iload_n 0, 1) := by decide +kernel
theorem dX6_numbersOf_1 : decode cX6_numbersOf 1 = .ok (.tableswitch 109 99 120 #[105, 109, 105, 109, 109, 109, 109, 109, 109, 109, 109, 109, 107, 109, 109, 109, 107, 105, 103, 109, 103, 107], 103) := by decide +kernel
theorem dX6_numbersOf_104 : decode cX6_numbersOf 104 = .ok (.iconst 2, 1) := by decide +kernel
theorem dX6_numbersOf_105 : decode cX6_numbersOf 105 = .ok (.ireturn, 1) := by decide +kernel
theorem dX6_numbersOf_106 : decode cX6_numbersOf 106 = .ok (.iconst 1, 1) := by decide +kernel
theorem dX6_numbersOf_107 : decode cX6_numbersOf 107 = .ok (.ireturn, 1) := by decide +kernel
theorem dX6_numbersOf_108 : decode cX6_numbersOf 108 = .ok (.iconst 0, 1) := by decide +kernel
theorem dX6_numbersOf_109 : decode cX6_numbersOf 109 = .ok (.ireturn, 1) := by decide +kernel
theorem dX6_numbersOf_110 : decode cX6_numbersOf 110 = .ok (.iconst (-1), 1) := by decide +kernel
theorem dX6_numbersOf_111 : decode cX6_numbersOf 111 = .ok (.ireturn, 1) := by decide +kernel
theorem dX6_readNumber_0 : decode cX6_readNumber 0 = .ok (.iconst 0, 1) := by decide +kernel
theorem dX6_readNumber_1 : decode cX6_readNumber 1 = .ok (.istore_n 1, 1) := by decide +kernel
theorem dX6_readNumber_2 : decode cX6_readNumber 2 = .ok (.iconst 0, 1) := by decide +kernel
theorem dX6_readNumber_3 : decode cX6_readNumber 3 = .ok (.istore_n 2, 1) := by decide +kernel
theorem dX6_readNumber_4 : decode cX6_readNumber 4 = .ok (.iload_n 2, 1) := by decide +kernel
theorem dX6_readNumber_5 : decode cX6_readNumber 5 = .ok (.iconst 3, 1) := by decide +kernel
theorem dX6_readNumber_6 : decode cX6_readNumber 6 = .ok (.if_icmp .ge 46, 3) := by decide +kernel
theorem dX6_readNumber_9 : decode cX6_readNumber 9 = .ok (.aload_n 0, 1) := by decide +kernel
theorem dX6_readNumber_10 : decode cX6_readNumber 10 = .ok (.invokevirtual 30, 3) := by decide +kernel
theorem dX6_readNumber_13 : decode cX6_readNumber 13 = .ok (.bipush 48, 2) := by decide +kernel
theorem dX6_readNumber_15 : decode cX6_readNumber 15 = .ok (.bipush 57, 2) := by decide +kernel
theorem dX6_readNumber_17 : decode cX6_readNumber 17 = .ok (.invokestatic 19, 3) := by decide +kernel
theorem dX6_readNumber_20 : decode cX6_readNumber 20 = .ok (.ifCond .eq 32, 3) := by decide +kernel
theorem dX6_readNumber_23 : decode cX6_readNumber 23 = .ok (.iload_n 1, 1) := by decide +kernel
theorem dX6_readNumber_24 : decode cX6_readNumber 24 = .ok (.bipush 10, 2) := by decide +kernel
theorem dX6_readNumber_26 : decode cX6_readNumber 26 = .ok (.imul, 1) := by decide +kernel
theorem dX6_readNumber_27 : decode cX6_readNumber 27 = .ok (.aload_n 0, 1) := by decide +kernel
theorem dX6_readNumber_28 : decode cX6_readNumber 28 = .ok (.invokevirtual 30, 3) := by decide +kernel
theorem dX6_readNumber_31 : decode cX6_readNumber 31 = .ok (.bipush 48, 2) := by decide +kernel
theorem dX6_readNumber_33 : decode cX6_readNumber 33 = .ok (.isub, 1) := by decide +kernel
theorem dX6_readNumber_34 : decode cX6_readNumber 34 = .ok (.iadd, 1) := by decide +kernel
theorem dX6_readNumber_35 : decode cX6_readNumber 35 = .ok (.istore_n 1, 1) := by decide +kernel
theorem dX6_readNumber_36 : decode cX6_readNumber 36 = .ok (.iinc 2 1, 3) := by decide +kernel
theorem dX6_readNumber_39 : decode cX6_readNumber 39 = .ok (.aload_n 0, 1) := by decide +kernel
theorem dX6_readNumber_40 : decode cX6_readNumber 40 = .ok (.dup, 1) := by decide +kernel
theorem dX6_readNumber_41 : decode cX6_readNumber 41 = .ok (.getfield 27, 3) := by decide +kernel
theorem dX6_readNumber_44 : decode cX6_readNumber 44 = .ok (.iconst 1, 1) := by decide +kernel
theorem dX6_readNumber_45 : decode cX6_readNumber 45 = .ok (.iadd, 1) := by decide +kernel
theorem dX6_readNumber_46 : decode cX6_readNumber 46 = .ok (.putfield 27, 3) := by decide +kernel
theorem dX6_readNumber_49 : decode cX6_readNumber 49 = .ok (.goto (-45), 3) := by decide +kernel
theorem dX6_readNumber_52 : decode cX6_readNumber 52 = .ok (.iload_n 2, 1) := by decide +kernel
theorem dX6_readNumber_53 : decode cX6_readNumber 53 = .ok (.ifCond .ne 7, 3) := by decide +kernel
theorem dX6_readNumber_56 : decode cX6_readNumber 56 = .ok (.iconst (-1), 1) := by decide +kernel
theorem dX6_readNumber_57 : decode cX6_readNumber 57 = .ok (.goto 4, 3) := by decide +kernel
theorem dX6_readNumber_60 : decode cX6_readNumber 60 = .ok (.iload_n 1, 1) := by decide +kernel
theorem dX6_readNumber_61 : decode cX6_readNumber 61 = .ok (.ireturn, 1) := by decide +kernel
theorem dX6_readSign_0 : decode cX6_readSign 0 = .ok (.aload_n 0, 1) := by decide +kernel
theorem dX6_readSign_1 : decode cX6_readSign 1 = .ok (.invokevirtual 30, 3) := by decide +kernel
theorem dX6_readSign_4 : decode cX6_readSign 4 = .ok (.iload_n 1, 1) := by decide +kernel
theorem dX6_readSign_5 : decode cX6_readSign 5 = .ok (.if_icmp .ne 7, 3) := by decide +kernel
theorem dX6_readSign_8 : decode cX6_readSign 8 = .ok (.iconst 1, 1) := by decide +kernel
theorem dX6_readSign_9 : decode cX6_readSign 9 = .ok (.goto 4, 3) := by decide +kernel
theorem dX6_readSign_12 : decode cX6_readSign 12 = .ok (.iconst 0, 1) := by decide +kernel
theorem dX6_readSign_13 : decode cX6_readSign 13 = .ok (.istore_n 2, 1) := by decide +kernel
theorem dX6_readSign_14 : decode cX6_readSign 14 = .ok (.aload_n 0, 1) := by decide +kernel
theorem dX6_readSign_15 : decode cX6_readSign 15 = .ok (.dup, 1) := by decide +kernel
theorem dX6_readSign_16 : decode cX6_readSign 16 = .ok (.getfield 27, 3) := by decide +kernel
theorem dX6_readSign_19 : decode cX6_readSign 19 = .ok (.iconst 1, 1) := by decide +kernel
theorem dX6_readSign_20 : decode cX6_readSign 20 = .ok (.iadd, 1) := by decide +kernel
theorem dX6_readSign_21 : decode cX6_readSign 21 = .ok (.putfield 27, 3) := by decide +kernel
theorem dX6_readSign_24 : decode cX6_readSign 24 = .ok (.iload_n 2, 1) := by decide +kernel
theorem dX6_readSign_25 : decode cX6_readSign 25 = .ok (.ireturn, 1) := by decide +kernel
theorem dX6_sign_0 : decode cX6_sign 0 = .ok (.aload_n 0, 1) := by decide +kernel
theorem dX6_sign_1 : decode cX6_sign 1 = .ok (.getfield 27, 3) := by decide +kernel
theorem dX6_sign_4 : decode cX6_sign 4 = .ok (.aload_n 0, 1) := by decide +kernel
theorem dX6_sign_5 : decode cX6_sign 5 = .ok (.getfield 15, 3) := by decide +kernel
theorem dX6_sign_8 : decode cX6_sign 8 = .ok (.if_icmp .ge 17, 3) := by decide +kernel
theorem dX6_sign_11 : decode cX6_sign 11 = .ok (.aload_n 0, 1) := by decide +kernel
theorem dX6_sign_12 : decode cX6_sign 12 = .ok (.getfield 9, 3) := by decide +kernel
theorem dX6_sign_15 : decode cX6_sign 15 = .ok (.aload_n 0, 1) := by decide +kernel
theorem dX6_sign_16 : decode cX6_sign 16 = .ok (.getfield 27, 3) := by decide +kernel
theorem dX6_sign_19 : decode cX6_sign 19 = .ok (.invokestatic 54, 3) := by decide +kernel
theorem dX6_sign_22 : decode cX6_sign 22 = .ok (.goto 4, 3) := by decide +kernel
theorem dX6_sign_25 : decode cX6_sign 25 = .ok (.iconst 0, 1) := by decide +kernel
theorem dX6_sign_26 : decode cX6_sign 26 = .ok (.ireturn, 1) := by decide +kernel
theorem dX7_init_0 : decode cX7_init 0 = .ok (.aload_n 0, 1) := by decide +kernel
theorem dX7_init_1 : decode cX7_init 1 = .ok (.invokespecial 3, 3) := by decide +kernel
theorem dX7_init_4 : decode cX7_init 4 = .ok (.return_, 1) := by decide +kernel
theorem dX7_copyFrom_0 : decode cX7_copyFrom 0 = .ok (.aload_n 0, 1) := by decide +kernel
theorem dX7_copyFrom_1 : decode cX7_copyFrom 1 = .ok (.aload_n 1, 1) := by decide +kernel
theorem dX7_copyFrom_2 : decode cX7_copyFrom 2 = .ok (.getfield 9, 3) := by decide +kernel
theorem dX7_copyFrom_5 : decode cX7_copyFrom 5 = .ok (.putfield 9, 3) := by decide +kernel
theorem dX7_copyFrom_8 : decode cX7_copyFrom 8 = .ok (.aload_n 0, 1) := by decide +kernel
theorem dX7_copyFrom_9 : decode cX7_copyFrom 9 = .ok (.aload_n 1, 1) := by decide +kernel
theorem dX7_copyFrom_10 : decode cX7_copyFrom 10 = .ok (.getfield 15, 3) := by decide +kernel
theorem dX7_copyFrom_13 : decode cX7_copyFrom 13 = .ok (.putfield 15, 3) := by decide +kernel
theorem dX7_copyFrom_16 : decode cX7_copyFrom 16 = .ok (.aload_n 0, 1) := by decide +kernel
theorem dX7_copyFrom_17 : decode cX7_copyFrom 17 = .ok (.aload_n 1, 1) := by decide +kernel
theorem dX7_copyFrom_18 : decode cX7_copyFrom 18 = .ok (.getfield 18, 3) := by decide +kernel
theorem dX7_copyFrom_21 : decode cX7_copyFrom 21 = .ok (.putfield 18, 3) := by decide +kernel
theorem dX7_copyFrom_24 : decode cX7_copyFrom 24 = .ok (.aload_n 0, 1) := by decide +kernel
theorem dX7_copyFrom_25 : decode cX7_copyFrom 25 = .ok (.aload_n 1, 1) := by decide +kernel
theorem dX7_copyFrom_26 : decode cX7_copyFrom 26 = .ok (.getfield 22, 3) := by decide +kernel
theorem dX7_copyFrom_29 : decode cX7_copyFrom 29 = .ok (.putfield 22, 3) := by decide +kernel
theorem dX7_copyFrom_32 : decode cX7_copyFrom 32 = .ok (.aload_n 0, 1) := by decide +kernel
theorem dX7_copyFrom_33 : decode cX7_copyFrom 33 = .ok (.aload_n 1, 1) := by decide +kernel
theorem dX7_copyFrom_34 : decode cX7_copyFrom 34 = .ok (.getfield 25, 3) := by decide +kernel
theorem dX7_copyFrom_37 : decode cX7_copyFrom 37 = .ok (.putfield 25, 3) := by decide +kernel
theorem dX7_copyFrom_40 : decode cX7_copyFrom 40 = .ok (.aload_n 0, 1) := by decide +kernel
theorem dX7_copyFrom_41 : decode cX7_copyFrom 41 = .ok (.aload_n 1, 1) := by decide +kernel
theorem dX7_copyFrom_42 : decode cX7_copyFrom 42 = .ok (.getfield 28, 3) := by decide +kernel
theorem dX7_copyFrom_45 : decode cX7_copyFrom 45 = .ok (.putfield 28, 3) := by decide +kernel
theorem dX7_copyFrom_48 : decode cX7_copyFrom 48 = .ok (.aload_n 0, 1) := by decide +kernel
theorem dX7_copyFrom_49 : decode cX7_copyFrom 49 = .ok (.aload_n 1, 1) := by decide +kernel
theorem dX7_copyFrom_50 : decode cX7_copyFrom 50 = .ok (.getfield 31, 3) := by decide +kernel
theorem dX7_copyFrom_53 : decode cX7_copyFrom 53 = .ok (.putfield 31, 3) := by decide +kernel
theorem dX7_copyFrom_56 : decode cX7_copyFrom 56 = .ok (.aload_n 0, 1) := by decide +kernel
theorem dX7_copyFrom_57 : decode cX7_copyFrom 57 = .ok (.aload_n 1, 1) := by decide +kernel
theorem dX7_copyFrom_58 : decode cX7_copyFrom 58 = .ok (.getfield 34, 3) := by decide +kernel
theorem dX7_copyFrom_61 : decode cX7_copyFrom 61 = .ok (.putfield 34, 3) := by decide +kernel
theorem dX7_copyFrom_64 : decode cX7_copyFrom 64 = .ok (.return_, 1) := by decide +kernel
theorem dX7_isBehindBackup_0 : decode cX7_isBehindBackup 0 = .ok (.aload_n 0, 1) := by decide +kernel
theorem dX7_isBehindBackup_1 : decode cX7_isBehindBackup 1 = .ok (.getfield 34, 3) := by decide +kernel
theorem dX7_isBehindBackup_4 : decode cX7_isBehindBackup 4 = .ok (.aload_n 0, 1) := by decide +kernel
theorem dX7_isBehindBackup_5 : decode cX7_isBehindBackup 5 = .ok (.getfield 31, 3) := by decide +kernel
theorem dX7_isBehindBackup_8 : decode cX7_isBehindBackup 8 = .ok (.if_icmp .gt 7, 3) := by decide +kernel
theorem dX7_isBehindBackup_11 : decode cX7_isBehindBackup 11 = .ok (.iconst 1, 1) := by decide +kernel
theorem dX7_isBehindBackup_12 : decode cX7_isBehindBackup 12 = .ok (.goto 4, 3) := by decide +kernel
theorem dX7_isBehindBackup_15 : decode cX7_isBehindBackup 15 = .ok (.iconst 0, 1) := by decide +kernel
theorem dX7_isBehindBackup_16 : decode cX7_isBehindBackup 16 = .ok (.ireturn, 1) := by decide +kernel
theorem dX7_hasBegunItself_0 : decode cX7_hasBegunItself 0 = .ok (.aload_n 0, 1) := by decide +kernel
theorem dX7_hasBegunItself_1 : decode cX7_hasBegunItself 1 = .ok (.getfield 34, 3) := by decide +kernel
theorem dX7_hasBegunItself_4 : decode cX7_hasBegunItself 4 = .ok (.aload_n 0, 1) := by decide +kernel
theorem dX7_hasBegunItself_5 : decode cX7_hasBegunItself 5 = .ok (.getfield 31, 3) := by decide +kernel
theorem dX7_hasBegunItself_8 : decode cX7_hasBegunItself 8 = .ok (.if_icmp .ge 7, 3) := by decide +kernel
theorem dX7_hasBegunItself_11 : decode cX7_hasBegunItself 11 = .ok (.iconst 1, 1) := by decide +kernel
theorem dX7_hasBegunItself_12 : decode cX7_hasBegunItself 12 = .ok (.goto 4, 3) := by decide +kernel
theorem dX7_hasBegunItself_15 : decode cX7_hasBegunItself 15 = .ok (.iconst 0, 1) := by decide +kernel
theorem dX7_hasBegunItself_16 : decode cX7_hasBegunItself 16 = .ok (.ireturn, 1) := by decide +kernel
theorem dX7_isAskedFor_0 : decode cX7_isAskedFor 0 = .ok (.aload_n 0, 1) := by decide +kernel
theorem dX7_isAskedFor_1 : decode cX7_isAskedFor 1 = .ok (.getfield 18, 3) := by decide +kernel
theorem dX7_isAskedFor_4 : decode cX7_isAskedFor 4 = .ok (.iconst 1, 1) := by decide +kernel
theorem dX7_isAskedFor_5 : decode cX7_isAskedFor 5 = .ok (.if_icmp .eq 11, 3) := by decide +kernel
theorem dX7_isAskedFor_8 : decode cX7_isAskedFor 8 = .ok (.aload_n 0, 1) := by decide +kernel
theorem dX7_isAskedFor_9 : decode cX7_isAskedFor 9 = .ok (.getfield 18, 3) := by decide +kernel
theorem dX7_isAskedFor_12 : decode cX7_isAskedFor 12 = .ok (.iconst 2, 1) := by decide +kernel
theorem dX7_isAskedFor_13 : decode cX7_isAskedFor 13 = .ok (.if_icmp .ne 7, 3) := by decide +kernel
theorem dX7_isAskedFor_16 : decode cX7_isAskedFor 16 = .ok (.iconst 1, 1) := by decide +kernel
theorem dX7_isAskedFor_17 : decode cX7_isAskedFor 17 = .ok (.goto 4, 3) := by decide +kernel
theorem dX7_isAskedFor_20 : decode cX7_isAskedFor 20 = .ok (.iconst 0, 1) := by decide +kernel
theorem dX7_isAskedFor_21 : decode cX7_isAskedFor 21 = .ok (.ireturn, 1) := by decide +kernel
theorem dX8_init_0 : decode cX8_init 0 = .ok (.aload_n 0, 1) := by decide +kernel
theorem dX8_init_1 : decode cX8_init 1 = .ok (.invokespecial 3, 3) := by decide +kernel
theorem dX8_init_4 : decode cX8_init 4 = .ok (.aload_n 0, 1) := by decide +kernel
theorem dX8_init_5 : decode cX8_init 5 = .ok (.new 9, 3) := by decide +kernel
theorem dX8_init_8 : decode cX8_init 8 = .ok (.dup, 1) := by decide +kernel
theorem dX8_init_9 : decode cX8_init 9 = .ok (.invokespecial 11, 3) := by decide +kernel
theorem dX8_init_12 : decode cX8_init 12 = .ok (.putfield 12, 3) := by decide +kernel
theorem dX8_init_15 : decode cX8_init 15 = .ok (.aload_n 0, 1) := by decide +kernel
theorem dX8_init_16 : decode cX8_init 16 = .ok (.new 9, 3) := by decide +kernel
theorem dX8_init_19 : decode cX8_init 19 = .ok (.dup, 1) := by decide +kernel
theorem dX8_init_20 : decode cX8_init 20 = .ok (.invokespecial 11, 3) := by decide +kernel
theorem dX8_init_23 : decode cX8_init 23 = .ok (.putfield 16, 3) := by decide +kernel
theorem dX8_init_26 : decode cX8_init 26 = .ok (.aload_n 0, 1) := by decide +kernel
theorem dX8_init_27 : decode cX8_init 27 = .ok (.new 19, 3) := by decide +kernel
theorem dX8_init_30 : decode cX8_init 30 = .ok (.dup, 1) := by decide +kernel
theorem dX8_init_31 : decode cX8_init 31 = .ok (.invokespecial 21, 3) := by decide +kernel
theorem dX8_init_34 : decode cX8_init 34 = .ok (.putfield 22, 3) := by decide +kernel
theorem dX8_init_37 : decode cX8_init 37 = .ok (.aload_n 0, 1) := by decide +kernel
theorem dX8_init_38 : decode cX8_init 38 = .ok (.new 26, 3) := by decide +kernel
theorem dX8_init_41 : decode cX8_init 41 = .ok (.dup, 1) := by decide +kernel
theorem dX8_init_42 : decode cX8_init 42 = .ok (.invokespecial 28, 3) := by decide +kernel
theorem dX8_init_45 : decode cX8_init 45 = .ok (.putfield 29, 3) := by decide +kernel
theorem dX8_init_48 : decode cX8_init 48 = .ok (.aload_n 0, 1) := by decide +kernel
theorem dX8_init_49 : decode cX8_init 49 = .ok (.new 33, 3) := by decide +kernel
theorem dX8_init_52 : decode cX8_init 52 = .ok (.dup, 1) := by decide +kernel
theorem dX8_init_53 : decode cX8_init 53 = .ok (.invokespecial 35, 3) := by decide +kernel
theorem dX8_init_56 : decode cX8_init 56 = .ok (.putfield 36, 3) := by decide +kernel
theorem dX8_init_59 : decode cX8_init 59 = .ok (.return_, 1) := by decide +kernel
theorem dX8_write_0 : decode cX8_write 0 = .ok (.iload_n 3, 1) := by decide +kernel
theorem dX8_write_1 : decode cX8_write 1 = .ok (.iconst 0, 1) := by decide +kernel
theorem dX8_write_2 : decode cX8_write 2 = .ok (.iconst 1, 1) := by decide +kernel
theorem dX8_write_3 : decode cX8_write 3 = .ok (.invokestatic 40, 3) := by decide +kernel
theorem dX8_write_6 : decode cX8_write 6 = .ok (.ifCond .ne 5, 3) := by decide +kernel
theorem dX8_write_9 : decode cX8_write 9 = .ok (.iconst (-1), 1) := by decide +kernel
theorem dX8_write_10 : decode cX8_write 10 = .ok (.ireturn, 1) := by decide +kernel
theorem dX8_write_11 : decode cX8_write 11 = .ok (.aload_n 0, 1) := by decide +kernel
theorem dX8_write_12 : decode cX8_write 12 = .ok (.getfield 22, 3) := by decide +kernel
theorem dX8_write_15 : decode cX8_write 15 = .ok (.aload_n 0, 1) := by decide +kernel
theorem dX8_write_16 : decode cX8_write 16 = .ok (.getfield 12, 3) := by decide +kernel
theorem dX8_write_19 : decode cX8_write 19 = .ok (.invokevirtual 44, 3) := by decide +kernel
theorem dX8_write_22 : decode cX8_write 22 = .ok (.aload_n 0, 1) := by decide +kernel
theorem dX8_write_23 : decode cX8_write 23 = .ok (.aload_n 0, 1) := by decide +kernel
theorem dX8_write_24 : decode cX8_write 24 = .ok (.getfield 12, 3) := by decide +kernel
theorem dX8_write_27 : decode cX8_write 27 = .ok (.iload_n 1, 1) := by decide +kernel
theorem dX8_write_28 : decode cX8_write 28 = .ok (.iload_n 2, 1) := by decide +kernel
theorem dX8_write_29 : decode cX8_write 29 = .ok (.iload_n 3, 1) := by decide +kernel
theorem dX8_write_30 : decode cX8_write 30 = .ok (.iconst 1, 1) := by decide +kernel
theorem dX8_write_31 : decode cX8_write 31 = .ok (.if_icmp .ne 7, 3) := by decide +kernel
theorem dX8_write_34 : decode cX8_write 34 = .ok (.iconst 1, 1) := by decide +kernel
theorem dX8_write_35 : decode cX8_write 35 = .ok (.goto 4, 3) := by decide +kernel
theorem dX8_write_38 : decode cX8_write 38 = .ok (.iconst 2, 1) := by decide +kernel
theorem dX8_write_39 : decode cX8_write 39 = .ok (.invokevirtual 48, 3) := by decide +kernel
theorem dX8_write_42 : decode cX8_write 42 = .ok (.invokevirtual 52, 3) := by decide +kernel
theorem dX8_write_45 : decode cX8_write 45 = .ok (.ireturn, 1) := by decide +kernel
theorem dX8_tick_0 : decode cX8_tick 0 = .ok (.aload_n 0, 1) := by decide +kernel
theorem dX8_tick_1 : decode cX8_tick 1 = .ok (.getfield 22, 3) := by decide +kernel
theorem dX8_tick_4 : decode cX8_tick 4 = .ok (.aload_n 0, 1) := by decide +kernel
theorem dX8_tick_5 : decode cX8_tick 5 = .ok (.getfield 12, 3) := by decide +kernel
theorem dX8_tick_8 : decode cX8_tick 8 = .ok (.invokevirtual 44, 3) := by decide +kernel
theorem dX8_tick_11 : decode cX8_tick 11 = .ok (.aload_n 0, 1) := by decide +kernel
theorem dX8_tick_12 : decode cX8_tick 12 = .ok (.aload_n 0, 1) := by decide +kernel
theorem dX8_tick_13 : decode cX8_tick 13 = .ok (.getfield 12, 3) := by decide +kernel
theorem dX8_tick_16 : decode cX8_tick 16 = .ok (.iload_n 1, 1) := by decide +kernel
theorem dX8_tick_17 : decode cX8_tick 17 = .ok (.invokevirtual 56, 3) := by decide +kernel
theorem dX8_tick_20 : decode cX8_tick 20 = .ok (.invokevirtual 52, 3) := by decide +kernel
theorem dX8_tick_23 : decode cX8_tick 23 = .ok (.ireturn, 1) := by decide +kernel
theorem dX8_cut_0 : decode cX8_cut 0 = .ok (.aload_n 0, 1) := by decide +kernel
theorem dX8_cut_1 : decode cX8_cut 1 = .ok (.getfield 22, 3) := by decide +kernel
theorem dX8_cut_4 : decode cX8_cut 4 = .ok (.aload_n 0, 1) := by decide +kernel
theorem dX8_cut_5 : decode cX8_cut 5 = .ok (.getfield 12, 3) := by decide +kernel
theorem dX8_cut_8 : decode cX8_cut 8 = .ok (.invokevirtual 44, 3) := by decide +kernel
theorem dX8_cut_11 : decode cX8_cut 11 = .ok (.aload_n 0, 1) := by decide +kernel
theorem dX8_cut_12 : decode cX8_cut 12 = .ok (.aload_n 0, 1) := by decide +kernel
theorem dX8_cut_13 : decode cX8_cut 13 = .ok (.getfield 12, 3) := by decide +kernel
theorem dX8_cut_16 : decode cX8_cut 16 = .ok (.invokevirtual 59, 3) := by decide +kernel
theorem dX8_cut_19 : decode cX8_cut 19 = .ok (.invokevirtual 52, 3) := by decide +kernel
theorem dX8_cut_22 : decode cX8_cut 22 = .ok (.ireturn, 1) := by decide +kernel
theorem dX8_on_0 : decode cX8_on 0 = .ok (.aload_n 0, 1) := by decide +kernel
theorem dX8_on_1 : decode cX8_on 1 = .ok (.getfield 22, 3) := by decide +kernel
theorem dX8_on_4 : decode cX8_on 4 = .ok (.aload_n 0, 1) := by decide +kernel
theorem dX8_on_5 : decode cX8_on 5 = .ok (.getfield 12, 3) := by decide +kernel
theorem dX8_on_8 : decode cX8_on 8 = .ok (.invokevirtual 44, 3) := by decide +kernel
theorem dX8_on_11 : decode cX8_on 11 = .ok (.aload_n 0, 1) := by decide +kernel
theorem dX8_on_12 : decode cX8_on 12 = .ok (.aload_n 0, 1) := by decide +kernel
theorem dX8_on_13 : decode cX8_on 13 = .ok (.getfield 12, 3) := by decide +kernel
theorem dX8_on_16 : decode cX8_on 16 = .ok (.invokevirtual 63, 3) := by decide +kernel
theorem dX8_on_19 : decode cX8_on 19 = .ok (.invokevirtual 52, 3) := by decide +kernel
theorem dX8_on_22 : decode cX8_on 22 = .ok (.ireturn, 1) := by decide +kernel
theorem dX8_turn_0 : decode cX8_turn 0 = .ok (.aload_n 0, 1) := by decide +kernel
theorem dX8_turn_1 : decode cX8_turn 1 = .ok (.getfield 22, 3) := by decide +kernel
theorem dX8_turn_4 : decode cX8_turn 4 = .ok (.aload_n 0, 1) := by decide +kernel
theorem dX8_turn_5 : decode cX8_turn 5 = .ok (.getfield 12, 3) := by decide +kernel
theorem dX8_turn_8 : decode cX8_turn 8 = .ok (.invokevirtual 44, 3) := by decide +kernel
theorem dX8_turn_11 : decode cX8_turn 11 = .ok (.aload_n 0, 1) := by decide +kernel
theorem dX8_turn_12 : decode cX8_turn 12 = .ok (.aload_n 0, 1) := by decide +kernel
theorem dX8_turn_13 : decode cX8_turn 13 = .ok (.getfield 12, 3) := by decide +kernel
theorem dX8_turn_16 : decode cX8_turn 16 = .ok (.invokevirtual 66, 3) := by decide +kernel
theorem dX8_turn_19 : decode cX8_turn 19 = .ok (.invokevirtual 52, 3) := by decide +kernel
theorem dX8_turn_22 : decode cX8_turn 22 = .ok (.ireturn, 1) := by decide +kernel
theorem dX8_clean_0 : decode cX8_clean 0 = .ok (.aload_n 0, 1) := by decide +kernel
theorem dX8_clean_1 : decode cX8_clean 1 = .ok (.getfield 22, 3) := by decide +kernel
theorem dX8_clean_4 : decode cX8_clean 4 = .ok (.aload_n 0, 1) := by decide +kernel
theorem dX8_clean_5 : decode cX8_clean 5 = .ok (.getfield 12, 3) := by decide +kernel
theorem dX8_clean_8 : decode cX8_clean 8 = .ok (.invokevirtual 44, 3) := by decide +kernel
theorem dX8_clean_11 : decode cX8_clean 11 = .ok (.aload_n 0, 1) := by decide +kernel
theorem dX8_clean_12 : decode cX8_clean 12 = .ok (.aload_n 0, 1) := by decide +kernel
theorem dX8_clean_13 : decode cX8_clean 13 = .ok (.getfield 12, 3) := by decide +kernel
theorem dX8_clean_16 : decode cX8_clean 16 = .ok (.iload_n 1, 1) := by decide +kernel
theorem dX8_clean_17 : decode cX8_clean 17 = .ok (.invokevirtual 69, 3) := by decide +kernel
theorem dX8_clean_20 : decode cX8_clean 20 = .ok (.invokevirtual 52, 3) := by decide +kernel
theorem dX8_clean_23 : decode cX8_clean 23 = .ok (.ireturn, 1) := by decide +kernel
theorem dX8_erase_0 : decode cX8_erase 0 = .ok (.aload_n 0, 1) := by decide +kernel
theorem dX8_erase_1 : decode cX8_erase 1 = .ok (.getfield 22, 3) := by decide +kernel
theorem dX8_erase_4 : decode cX8_erase 4 = .ok (.aload_n 0, 1) := by decide +kernel
theorem dX8_erase_5 : decode cX8_erase 5 = .ok (.getfield 12, 3) := by decide +kernel
theorem dX8_erase_8 : decode cX8_erase 8 = .ok (.invokevirtual 44, 3) := by decide +kernel
theorem dX8_erase_11 : decode cX8_erase 11 = .ok (.aload_n 0, 1) := by decide +kernel
theorem dX8_erase_12 : decode cX8_erase 12 = .ok (.aload_n 0, 1) := by decide +kernel
theorem dX8_erase_13 : decode cX8_erase 13 = .ok (.getfield 12, 3) := by decide +kernel
theorem dX8_erase_16 : decode cX8_erase 16 = .ok (.iload_n 1, 1) := by decide +kernel
theorem dX8_erase_17 : decode cX8_erase 17 = .ok (.invokevirtual 72, 3) := by decide +kernel
theorem dX8_erase_20 : decode cX8_erase 20 = .ok (.invokevirtual 52, 3) := by decide +kernel
theorem dX8_erase_23 : decode cX8_erase 23 = .ok (.ireturn, 1) := by decide +kernel
theorem dX8_slow_0 : decode cX8_slow 0 = .ok (.aload_n 0, 1) := by decide +kernel
theorem dX8_slow_1 : decode cX8_slow 1 = .ok (.getfield 22, 3) := by decide +kernel
theorem dX8_slow_4 : decode cX8_slow 4 = .ok (.aload_n 0, 1) := by decide +kernel
theorem dX8_slow_5 : decode cX8_slow 5 = .ok (.getfield 12, 3) := by decide +kernel
theorem dX8_slow_8 : decode cX8_slow 8 = .ok (.invokevirtual 44, 3) := by decide +kernel
theorem dX8_slow_11 : decode cX8_slow 11 = .ok (.aload_n 0, 1) := by decide +kernel
theorem dX8_slow_12 : decode cX8_slow 12 = .ok (.aload_n 0, 1) := by decide +kernel
theorem dX8_slow_13 : decode cX8_slow 13 = .ok (.getfield 12, 3) := by decide +kernel
theorem dX8_slow_16 : decode cX8_slow 16 = .ok (.iload_n 1, 1) := by decide +kernel
theorem dX8_slow_17 : decode cX8_slow 17 = .ok (.iload_n 2, 1) := by decide +kernel
theorem dX8_slow_18 : decode cX8_slow 18 = .ok (.invokevirtual 75, 3) := by decide +kernel
theorem dX8_slow_21 : decode cX8_slow 21 = .ok (.invokevirtual 52, 3) := by decide +kernel
theorem dX8_slow_24 : decode cX8_slow 24 = .ok (.ireturn, 1) := by decide +kernel
theorem dX8_set_0 : decode cX8_set 0 = .ok (.aload_n 0, 1) := by decide +kernel
theorem dX8_set_1 : decode cX8_set 1 = .ok (.getfield 22, 3) := by decide +kernel
theorem dX8_set_4 : decode cX8_set 4 = .ok (.aload_n 0, 1) := by decide +kernel
theorem dX8_set_5 : decode cX8_set 5 = .ok (.getfield 12, 3) := by decide +kernel
theorem dX8_set_8 : decode cX8_set 8 = .ok (.invokevirtual 44, 3) := by decide +kernel
theorem dX8_set_11 : decode cX8_set 11 = .ok (.aload_n 0, 1) := by decide +kernel
theorem dX8_set_12 : decode cX8_set 12 = .ok (.aload_n 0, 1) := by decide +kernel
theorem dX8_set_13 : decode cX8_set 13 = .ok (.getfield 12, 3) := by decide +kernel
theorem dX8_set_16 : decode cX8_set 16 = .ok (.iload_n 1, 1) := by decide +kernel
theorem dX8_set_17 : decode cX8_set 17 = .ok (.iload_n 2, 1) := by decide +kernel
theorem dX8_set_18 : decode cX8_set 18 = .ok (.invokevirtual 79, 3) := by decide +kernel
theorem dX8_set_21 : decode cX8_set 21 = .ok (.invokevirtual 52, 3) := by decide +kernel
theorem dX8_set_24 : decode cX8_set 24 = .ok (.ireturn, 1) := by decide +kernel
theorem dX8_read_0 : decode cX8_read 0 = .ok (.aload_n 0, 1) := by decide +kernel
theorem dX8_read_1 : decode cX8_read 1 = .ok (.getfield 12, 3) := by decide +kernel
theorem dX8_read_4 : decode cX8_read 4 = .ok (.iload_n 1, 1) := by decide +kernel
theorem dX8_read_5 : decode cX8_read 5 = .ok (.invokevirtual 82, 3) := by decide +kernel
theorem dX8_read_8 : decode cX8_read 8 = .ok (.ireturn, 1) := by decide +kernel
theorem dX8_placeOf_0 : decode cX8_placeOf 0 = .ok (.aload_n 0, 1) := by decide +kernel
theorem dX8_placeOf_1 : decode cX8_placeOf 1 = .ok (.getfield 12, 3) := by decide +kernel
theorem dX8_placeOf_4 : decode cX8_placeOf 4 = .ok (.iload_n 1, 1) := by decide +kernel
theorem dX8_placeOf_5 : decode cX8_placeOf 5 = .ok (.iload_n 2, 1) := by decide +kernel
theorem dX8_placeOf_6 : decode cX8_placeOf 6 = .ok (.invokevirtual 85, 3) := by decide +kernel
theorem dX8_placeOf_9 : decode cX8_placeOf 9 = .ok (.ireturn, 1) := by decide +kernel
theorem dX8_pageOf_0 : decode cX8_pageOf 0 = .ok (.aload_n 0, 1) := by decide +kernel
theorem dX8_pageOf_1 : decode cX8_pageOf 1 = .ok (.getfield 12, 3) := by decide +kernel
theorem dX8_pageOf_4 : decode cX8_pageOf 4 = .ok (.iload_n 1, 1) := by decide +kernel
theorem dX8_pageOf_5 : decode cX8_pageOf 5 = .ok (.iload_n 2, 1) := by decide +kernel
theorem dX8_pageOf_6 : decode cX8_pageOf 6 = .ok (.iload_n 3, 1) := by decide +kernel
theorem dX8_pageOf_7 : decode cX8_pageOf 7 = .ok (.invokevirtual 88, 3) := by decide +kernel
theorem dX8_pageOf_10 : decode cX8_pageOf 10 = .ok (.ireturn, 1) := by decide +kernel
theorem dX8_backupOf_0 : decode cX8_backupOf 0 = .ok (.aload_n 0, 1) := by decide +kernel
theorem dX8_backupOf_1 : decode cX8_backupOf 1 = .ok (.getfield 12, 3) := by decide +kernel
theorem dX8_backupOf_4 : decode cX8_backupOf 4 = .ok (.iload_n 1, 1) := by decide +kernel
theorem dX8_backupOf_5 : decode cX8_backupOf 5 = .ok (.iload_n 2, 1) := by decide +kernel
theorem dX8_backupOf_6 : decode cX8_backupOf 6 = .ok (.iload_n 3, 1) := by decide +kernel
theorem dX8_backupOf_7 : decode cX8_backupOf 7 = .ok (.invokevirtual 91, 3) := by decide +kernel
theorem dX8_backupOf_10 : decode cX8_backupOf 10 = .ok (.ireturn, 1) := by decide +kernel
theorem dX8_waits_0 : decode cX8_waits 0 = .ok (.aload_n 0, 1) := by decide +kernel
theorem dX8_waits_1 : decode cX8_waits 1 = .ok (.getfield 12, 3) := by decide +kernel
theorem dX8_waits_4 : decode cX8_waits 4 = .ok (.iload_n 1, 1) := by decide +kernel
theorem dX8_waits_5 : decode cX8_waits 5 = .ok (.iload_n 2, 1) := by decide +kernel
theorem dX8_waits_6 : decode cX8_waits 6 = .ok (.invokevirtual 94, 3) := by decide +kernel
theorem dX8_waits_9 : decode cX8_waits 9 = .ok (.ireturn, 1) := by decide +kernel
theorem dX8_count_0 : decode cX8_count 0 = .ok (.iload_n 1, 1) := by decide +kernel
theorem dX8_count_1 : decode cX8_count 1 = .ok (.bipush 16, 2) := by decide +kernel
theorem dX8_count_3 : decode cX8_count 3 = .ok (.if_icmp .ne 11, 3) := by decide +kernel
theorem dX8_count_6 : decode cX8_count 6 = .ok (.aload_n 0, 1) := by decide +kernel
theorem dX8_count_7 : decode cX8_count 7 = .ok (.getfield 22, 3) := by decide +kernel
theorem dX8_count_10 : decode cX8_count 10 = .ok (.invokevirtual 97, 3) := by decide +kernel
theorem dX8_count_13 : decode cX8_count 13 = .ok (.ireturn, 1) := by decide +kernel
theorem dX8_count_14 : decode cX8_count 14 = .ok (.iload_n 1, 1) := by decide +kernel
theorem dX8_count_15 : decode cX8_count 15 = .ok (.bipush 17, 2) := by decide +kernel
theorem dX8_count_17 : decode cX8_count 17 = .ok (.if_icmp .ne 11, 3) := by decide +kernel
theorem dX8_count_20 : decode cX8_count 20 = .ok (.aload_n 0, 1) := by decide +kernel
theorem dX8_count_21 : decode cX8_count 21 = .ok (.getfield 29, 3) := by decide +kernel
theorem dX8_count_24 : decode cX8_count 24 = .ok (.invokevirtual 100, 3) := by decide +kernel
theorem dX8_count_27 : decode cX8_count 27 = .ok (.ireturn, 1) := by decide +kernel
theorem dX8_count_28 : decode cX8_count 28 = .ok (.aload_n 0, 1) := by decide +kernel
theorem dX8_count_29 : decode cX8_count 29 = .ok (.getfield 12, 3) := by decide +kernel
theorem dX8_count_32 : decode cX8_count 32 = .ok (.iload_n 1, 1) := by decide +kernel
theorem dX8_count_33 : decode cX8_count 33 = .ok (.invokevirtual 103, 3) := by decide +kernel
theorem dX8_count_36 : decode cX8_count 36 = .ok (.ireturn, 1) := by decide +kernel
theorem dX8_wouldLose_0 : decode cX8_wouldLose 0 = .ok (.iload_n 1, 1) := by decide +kernel
theorem dX8_wouldLose_1 : decode cX8_wouldLose 1 = .ok (.iconst 0, 1) := by decide +kernel
theorem dX8_wouldLose_2 : decode cX8_wouldLose 2 = .ok (.sipush 200, 3) := by decide +kernel
theorem dX8_wouldLose_5 : decode cX8_wouldLose 5 = .ok (.invokestatic 40, 3) := by decide +kernel
theorem dX8_wouldLose_8 : decode cX8_wouldLose 8 = .ok (.ifCond .ne 5, 3) := by decide +kernel
theorem dX8_wouldLose_11 : decode cX8_wouldLose 11 = .ok (.iconst (-1), 1) := by decide +kernel
theorem dX8_wouldLose_12 : decode cX8_wouldLose 12 = .ok (.ireturn, 1) := by decide +kernel
theorem dX8_wouldLose_13 : decode cX8_wouldLose 13 = .ok (.aload_n 0, 1) := by decide +kernel
theorem dX8_wouldLose_14 : decode cX8_wouldLose 14 = .ok (.getfield 12, 3) := by decide +kernel
theorem dX8_wouldLose_17 : decode cX8_wouldLose 17 = .ok (.invokevirtual 106, 3) := by decide +kernel
theorem dX8_wouldLose_20 : decode cX8_wouldLose 20 = .ok (.ifCond .ne 6, 3) := by decide +kernel
theorem dX8_wouldLose_23 : decode cX8_wouldLose 23 = .ok (.bipush (-2), 2) := by decide +kernel
theorem dX8_wouldLose_25 : decode cX8_wouldLose 25 = .ok (.ireturn, 1) := by decide +kernel
theorem dX8_wouldLose_26 : decode cX8_wouldLose 26 = .ok (.aload_n 0, 1) := by decide +kernel
theorem dX8_wouldLose_27 : decode cX8_wouldLose 27 = .ok (.getfield 16, 3) := by decide +kernel
theorem dX8_wouldLose_30 : decode cX8_wouldLose 30 = .ok (.aload_n 0, 1) := by decide +kernel
theorem dX8_wouldLose_31 : decode cX8_wouldLose 31 = .ok (.getfield 12, 3) := by decide +kernel
theorem dX8_wouldLose_34 : decode cX8_wouldLose 34 = .ok (.invokevirtual 110, 3) := by decide +kernel
theorem dX8_wouldLose_37 : decode cX8_wouldLose 37 = .ok (.aload_n 0, 1) := by decide +kernel
theorem dX8_wouldLose_38 : decode cX8_wouldLose 38 = .ok (.getfield 16, 3) := by decide +kernel
theorem dX8_wouldLose_41 : decode cX8_wouldLose 41 = .ok (.iload_n 1, 1) := by decide +kernel
theorem dX8_wouldLose_42 : decode cX8_wouldLose 42 = .ok (.invokevirtual 113, 3) := by decide +kernel
theorem dX8_wouldLose_45 : decode cX8_wouldLose 45 = .ok (.aload_n 0, 1) := by decide +kernel
theorem dX8_wouldLose_46 : decode cX8_wouldLose 46 = .ok (.getfield 16, 3) := by decide +kernel
theorem dX8_wouldLose_49 : decode cX8_wouldLose 49 = .ok (.invokevirtual 117, 3) := by decide +kernel
theorem dX8_wouldLose_52 : decode cX8_wouldLose 52 = .ok (.ireturn, 1) := by decide +kernel
theorem dX8_doneIn_0 : decode cX8_doneIn 0 = .ok (.aload_n 0, 1) := by decide +kernel
theorem dX8_doneIn_1 : decode cX8_doneIn 1 = .ok (.getfield 12, 3) := by decide +kernel
theorem dX8_doneIn_4 : decode cX8_doneIn 4 = .ok (.invokevirtual 106, 3) := by decide +kernel
theorem dX8_doneIn_7 : decode cX8_doneIn 7 = .ok (.ifCond .ne 6, 3) := by decide +kernel
theorem dX8_doneIn_10 : decode cX8_doneIn 10 = .ok (.bipush (-2), 2) := by decide +kernel
theorem dX8_doneIn_12 : decode cX8_doneIn 12 = .ok (.ireturn, 1) := by decide +kernel
theorem dX8_doneIn_13 : decode cX8_doneIn 13 = .ok (.aload_n 0, 1) := by decide +kernel
theorem dX8_doneIn_14 : decode cX8_doneIn 14 = .ok (.getfield 16, 3) := by decide +kernel
theorem dX8_doneIn_17 : decode cX8_doneIn 17 = .ok (.aload_n 0, 1) := by decide +kernel
theorem dX8_doneIn_18 : decode cX8_doneIn 18 = .ok (.getfield 12, 3) := by decide +kernel
theorem dX8_doneIn_21 : decode cX8_doneIn 21 = .ok (.invokevirtual 110, 3) := by decide +kernel
theorem dX8_doneIn_24 : decode cX8_doneIn 24 = .ok (.aload_n 0, 1) := by decide +kernel
theorem dX8_doneIn_25 : decode cX8_doneIn 25 = .ok (.getfield 16, 3) := by decide +kernel
theorem dX8_doneIn_28 : decode cX8_doneIn 28 = .ok (.invokevirtual 120, 3) := by decide +kernel
theorem dX8_doneIn_31 : decode cX8_doneIn 31 = .ok (.ireturn, 1) := by decide +kernel
theorem dX8_undo_0 : decode cX8_undo 0 = .ok (.aload_n 0, 1) := by decide +kernel
theorem dX8_undo_1 : decode cX8_undo 1 = .ok (.getfield 22, 3) := by decide +kernel
theorem dX8_undo_4 : decode cX8_undo 4 = .ok (.aload_n 0, 1) := by decide +kernel
theorem dX8_undo_5 : decode cX8_undo 5 = .ok (.getfield 12, 3) := by decide +kernel
theorem dX8_undo_8 : decode cX8_undo 8 = .ok (.invokevirtual 123, 3) := by decide +kernel
theorem dX8_undo_11 : decode cX8_undo 11 = .ok (.ireturn, 1) := by decide +kernel
theorem dX8_type_0 : decode cX8_type 0 = .ok (.aload_n 0, 1) := by decide +kernel
theorem dX8_type_1 : decode cX8_type 1 = .ok (.getfield 29, 3) := by decide +kernel
theorem dX8_type_4 : decode cX8_type 4 = .ok (.iload_n 1, 1) := by decide +kernel
theorem dX8_type_5 : decode cX8_type 5 = .ok (.invokevirtual 127, 3) := by decide +kernel
theorem dX8_type_8 : decode cX8_type 8 = .ok (.ireturn, 1) := by decide +kernel
theorem dX8_clearText_0 : decode cX8_clearText 0 = .ok (.aload_n 0, 1) := by decide +kernel
theorem dX8_clearText_1 : decode cX8_clearText 1 = .ok (.getfield 29, 3) := by decide +kernel
theorem dX8_clearText_4 : decode cX8_clearText 4 = .ok (.invokevirtual 130, 3) := by decide +kernel
theorem dX8_clearText_7 : decode cX8_clearText 7 = .ok (.ireturn, 1) := by decide +kernel
theorem dX8_fault_0 : decode cX8_fault 0 = .ok (.iload_n 1, 1) := by decide +kernel
theorem dX8_fault_1 : decode cX8_fault 1 = .ok (.iconst 0, 1) := by decide +kernel
theorem dX8_fault_2 : decode cX8_fault 2 = .ok (.iconst 2, 1) := by decide +kernel
theorem dX8_fault_3 : decode cX8_fault 3 = .ok (.invokestatic 40, 3) := by decide +kernel
theorem dX8_fault_6 : decode cX8_fault 6 = .ok (.ifCond .ne 5, 3) := by decide +kernel
theorem dX8_fault_9 : decode cX8_fault 9 = .ok (.iconst (-1), 1) := by decide +kernel
theorem dX8_fault_10 : decode cX8_fault 10 = .ok (.ireturn, 1) := by decide +kernel
theorem dX8_fault_11 : decode cX8_fault 11 = .ok (.aload_n 0, 1) := by decide +kernel
theorem dX8_fault_12 : decode cX8_fault 12 = .ok (.getfield 16, 3) := by decide +kernel
theorem dX8_fault_15 : decode cX8_fault 15 = .ok (.aload_n 0, 1) := by decide +kernel
theorem dX8_fault_16 : decode cX8_fault 16 = .ok (.getfield 12, 3) := by decide +kernel
theorem dX8_fault_19 : decode cX8_fault 19 = .ok (.invokevirtual 110, 3) := by decide +kernel
theorem dX8_fault_22 : decode cX8_fault 22 = .ok (.aload_n 0, 1) := by decide +kernel
theorem dX8_fault_23 : decode cX8_fault 23 = .ok (.getfield 36, 3) := by decide +kernel
theorem dX8_fault_26 : decode cX8_fault 26 = .ok (.aload_n 0, 1) := by decide +kernel
theorem dX8_fault_27 : decode cX8_fault 27 = .ok (.getfield 29, 3) := by decide +kernel
theorem dX8_fault_30 : decode cX8_fault 30 = .ok (.aload_n 0, 1) := by decide +kernel
theorem dX8_fault_31 : decode cX8_fault 31 = .ok (.getfield 16, 3) := by decide +kernel
theorem dX8_fault_34 : decode cX8_fault 34 = .ok (.invokevirtual 133, 3) := by decide +kernel
theorem dX8_fault_37 : decode cX8_fault 37 = .ok (.aload_n 0, 1) := by decide +kernel
theorem dX8_fault_38 : decode cX8_fault 38 = .ok (.getfield 36, 3) := by decide +kernel
theorem dX8_fault_41 : decode cX8_fault 41 = .ok (.iload_n 1, 1) := by decide +kernel
theorem dX8_fault_42 : decode cX8_fault 42 = .ok (.invokevirtual 137, 3) := by decide +kernel
theorem dX8_fault_45 : decode cX8_fault 45 = .ok (.ireturn, 1) := by decide +kernel
theorem dX8_play_0 : decode cX8_play 0 = .ok (.aload_n 0, 1) := by decide +kernel
theorem dX8_play_1 : decode cX8_play 1 = .ok (.getfield 16, 3) := by decide +kernel
theorem dX8_play_4 : decode cX8_play 4 = .ok (.aload_n 0, 1) := by decide +kernel
theorem dX8_play_5 : decode cX8_play 5 = .ok (.getfield 12, 3) := by decide +kernel
theorem dX8_play_8 : decode cX8_play 8 = .ok (.invokevirtual 110, 3) := by decide +kernel
theorem dX8_play_11 : decode cX8_play 11 = .ok (.aload_n 0, 1) := by decide +kernel
theorem dX8_play_12 : decode cX8_play 12 = .ok (.getfield 36, 3) := by decide +kernel
theorem dX8_play_15 : decode cX8_play 15 = .ok (.aload_n 0, 1) := by decide +kernel
theorem dX8_play_16 : decode cX8_play 16 = .ok (.getfield 29, 3) := by decide +kernel
theorem dX8_play_19 : decode cX8_play 19 = .ok (.aload_n 0, 1) := by decide +kernel
theorem dX8_play_20 : decode cX8_play 20 = .ok (.getfield 16, 3) := by decide +kernel
theorem dX8_play_23 : decode cX8_play 23 = .ok (.invokevirtual 133, 3) := by decide +kernel
theorem dX8_play_26 : decode cX8_play 26 = .ok (.aload_n 0, 1) := by decide +kernel
theorem dX8_play_27 : decode cX8_play 27 = .ok (.getfield 36, 3) := by decide +kernel
theorem dX8_play_30 : decode cX8_play 30 = .ok (.invokevirtual 140, 3) := by decide +kernel
theorem dX8_play_33 : decode cX8_play 33 = .ok (.ifCond .eq 6, 3) := by decide +kernel
theorem dX8_play_36 : decode cX8_play 36 = .ok (.bipush (-2), 2) := by decide +kernel
theorem dX8_play_38 : decode cX8_play 38 = .ok (.ireturn, 1) := by decide +kernel
theorem dX8_play_39 : decode cX8_play 39 = .ok (.aload_n 0, 1) := by decide +kernel
theorem dX8_play_40 : decode cX8_play 40 = .ok (.getfield 22, 3) := by decide +kernel
theorem dX8_play_43 : decode cX8_play 43 = .ok (.aload_n 0, 1) := by decide +kernel
theorem dX8_play_44 : decode cX8_play 44 = .ok (.getfield 12, 3) := by decide +kernel
theorem dX8_play_47 : decode cX8_play 47 = .ok (.invokevirtual 44, 3) := by decide +kernel
theorem dX8_play_50 : decode cX8_play 50 = .ok (.aload_n 0, 1) := by decide +kernel
theorem dX8_play_51 : decode cX8_play 51 = .ok (.getfield 12, 3) := by decide +kernel
theorem dX8_play_54 : decode cX8_play 54 = .ok (.aload_n 0, 1) := by decide +kernel
theorem dX8_play_55 : decode cX8_play 55 = .ok (.getfield 16, 3) := by decide +kernel
theorem dX8_play_58 : decode cX8_play 58 = .ok (.invokevirtual 110, 3) := by decide +kernel
theorem dX8_play_61 : decode cX8_play 61 = .ok (.aload_n 0, 1) := by decide +kernel
theorem dX8_play_62 : decode cX8_play 62 = .ok (.aload_n 0, 1) := by decide +kernel
theorem dX8_play_63 : decode cX8_play 63 = .ok (.getfield 36, 3) := by decide +kernel
theorem dX8_play_66 : decode cX8_play 66 = .ok (.invokevirtual 143, 3) := by decide +kernel
theorem dX8_play_69 : decode cX8_play 69 = .ok (.invokevirtual 52, 3) := by decide +kernel
theorem dX8_play_72 : decode cX8_play 72 = .ok (.ireturn, 1) := by decide +kernel
theorem dX8_keepChange_0 : decode cX8_keepChange 0 = .ok (.iload_n 1, 1) := by decide +kernel
theorem dX8_keepChange_1 : decode cX8_keepChange 1 = .ok (.ifCond .lt 10, 3) := by decide +kernel
theorem dX8_keepChange_4 : decode cX8_keepChange 4 = .ok (.aload_n 0, 1) := by decide +kernel
theorem dX8_keepChange_5 : decode cX8_keepChange 5 = .ok (.getfield 22, 3) := by decide +kernel
theorem dX8_keepChange_8 : decode cX8_keepChange 8 = .ok (.invokevirtual 146, 3) := by decide +kernel
theorem dX8_keepChange_11 : decode cX8_keepChange 11 = .ok (.iload_n 1, 1) := by decide +kernel
theorem dX8_keepChange_12 : decode cX8_keepChange 12 = .ok (.ireturn, 1) := by decide +kernel
theorem dX8_isIn_0 : decode cX8_isIn 0 = .ok (.iload_n 0, 1) := by decide +kernel
theorem dX8_isIn_1 : decode cX8_isIn 1 = .ok (.iload_n 1, 1) := by decide +kernel
theorem dX8_isIn_2 : decode cX8_isIn 2 = .ok (.if_icmp .lt 12, 3) := by decide +kernel
theorem dX8_isIn_5 : decode cX8_isIn 5 = .ok (.iload_n 0, 1) := by decide +kernel
theorem dX8_isIn_6 : decode cX8_isIn 6 = .ok (.iload_n 2, 1) := by decide +kernel
theorem dX8_isIn_7 : decode cX8_isIn 7 = .ok (.if_icmp .gt 7, 3) := by decide +kernel
theorem dX8_isIn_10 : decode cX8_isIn 10 = .ok (.iconst 1, 1) := by decide +kernel
theorem dX8_isIn_11 : decode cX8_isIn 11 = .ok (.goto 4, 3) := by decide +kernel
theorem dX8_isIn_14 : decode cX8_isIn 14 = .ok (.iconst 0, 1) := by decide +kernel
theorem dX8_isIn_15 : decode cX8_isIn 15 = .ok (.ireturn, 1) := by decide +kernel
theorem dX8_valueAt_0 : decode cX8_valueAt 0 = .ok (.iload_n 1, 1) := by decide +kernel
theorem dX8_valueAt_1 : decode cX8_valueAt 1 = .ok (.ifCond .lt 15, 3) := by decide +kernel
theorem dX8_valueAt_4 : decode cX8_valueAt 4 = .ok (.iload_n 1, 1) := by decide +kernel
theorem dX8_valueAt_5 : decode cX8_valueAt 5 = .ok (.aload_n 0, 1) := by decide +kernel
theorem dX8_valueAt_6 : decode cX8_valueAt 6 = .ok (.arraylength, 1) := by decide +kernel
theorem dX8_valueAt_7 : decode cX8_valueAt 7 = .ok (.if_icmp .ge 9, 3) := by decide +kernel
theorem dX8_valueAt_10 : decode cX8_valueAt 10 = .ok (.aload_n 0, 1) := by decide +kernel
theorem dX8_valueAt_11 : decode cX8_valueAt 11 = .ok (.iload_n 1, 1) := by decide +kernel
theorem dX8_valueAt_12 : decode cX8_valueAt 12 = .ok (.iaload, 1) := by decide +kernel
theorem dX8_valueAt_13 : decode cX8_valueAt 13 = .ok (.goto 4, 3) := by decide +kernel
theorem dX8_valueAt_16 : decode cX8_valueAt 16 = .ok (.iconst 0, 1) := by decide +kernel
theorem dX8_valueAt_17 : decode cX8_valueAt 17 = .ok (.ireturn, 1) := by decide +kernel
theorem dX8_putAt_0 : decode cX8_putAt 0 = .ok (.iload_n 1, 1) := by decide +kernel
theorem dX8_putAt_1 : decode cX8_putAt 1 = .ok (.ifCond .lt 13, 3) := by decide +kernel
theorem dX8_putAt_4 : decode cX8_putAt 4 = .ok (.iload_n 1, 1) := by decide +kernel
theorem dX8_putAt_5 : decode cX8_putAt 5 = .ok (.aload_n 0, 1) := by decide +kernel
theorem dX8_putAt_6 : decode cX8_putAt 6 = .ok (.arraylength, 1) := by decide +kernel
theorem dX8_putAt_7 : decode cX8_putAt 7 = .ok (.if_icmp .ge 7, 3) := by decide +kernel
theorem dX8_putAt_10 : decode cX8_putAt 10 = .ok (.aload_n 0, 1) := by decide +kernel
theorem dX8_putAt_11 : decode cX8_putAt 11 = .ok (.iload_n 1, 1) := by decide +kernel
theorem dX8_putAt_12 : decode cX8_putAt 12 = .ok (.iload_n 2, 1) := by decide +kernel
theorem dX8_putAt_13 : decode cX8_putAt 13 = .ok (.iastore, 1) := by decide +kernel
theorem dX8_putAt_14 : decode cX8_putAt 14 = .ok (.return_, 1) := by decide +kernel
theorem dX8_copyRow_0 : decode cX8_copyRow 0 = .ok (.aload_n 0, 1) := by decide +kernel
theorem dX8_copyRow_1 : decode cX8_copyRow 1 = .ok (.iconst 0, 1) := by decide +kernel
theorem dX8_copyRow_2 : decode cX8_copyRow 2 = .ok (.aload_n 1, 1) := by decide +kernel
theorem dX8_copyRow_3 : decode cX8_copyRow 3 = .ok (.iconst 0, 1) := by decide +kernel
theorem dX8_copyRow_4 : decode cX8_copyRow 4 = .ok (.aload_n 0, 1) := by decide +kernel
theorem dX8_copyRow_5 : decode cX8_copyRow 5 = .ok (.arraylength, 1) := by decide +kernel
theorem dX8_copyRow_6 : decode cX8_copyRow 6 = .ok (.aload_n 1, 1) := by decide +kernel
theorem dX8_copyRow_7 : decode cX8_copyRow 7 = .ok (.arraylength, 1) := by decide +kernel
theorem dX8_copyRow_8 : decode cX8_copyRow 8 = .ok (.invokestatic 149, 3) := by decide +kernel
theorem dX8_copyRow_11 : decode cX8_copyRow 11 = .ok (.invokestatic 154, 3) := by decide +kernel
theorem dX8_copyRow_14 : decode cX8_copyRow 14 = .ok (.return_, 1) := by decide +kernel
theorem dX8_quotient_0 : decode cX8_quotient 0 = .ok (.iload_n 1, 1) := by decide +kernel
theorem dX8_quotient_1 : decode cX8_quotient 1 = .ok (.ifCond .le 9, 3) := by decide +kernel
theorem dX8_quotient_4 : decode cX8_quotient 4 = .ok (.iload_n 0, 1) := by decide +kernel
theorem dX8_quotient_5 : decode cX8_quotient 5 = .ok (.iload_n 1, 1) := by decide +kernel
theorem dX8_quotient_6 : decode cX8_quotient 6 = .ok (.idiv, 1) := by decide +kernel
theorem dX8_quotient_7 : decode cX8_quotient 7 = .ok (.goto 4, 3) := by decide +kernel
theorem dX8_quotient_10 : decode cX8_quotient 10 = .ok (.iconst 0, 1) := by decide +kernel
theorem dX8_quotient_11 : decode cX8_quotient 11 = .ok (.ireturn, 1) := by decide +kernel
theorem dX8_cellOf_0 : decode cX8_cellOf 0 = .ok (.iload_n 0, 1) := by decide +kernel
theorem dX8_cellOf_1 : decode cX8_cellOf 1 = .ok (.bipush 24, 2) := by decide +kernel
theorem dX8_cellOf_3 : decode cX8_cellOf 3 = .ok (.imul, 1) := by decide +kernel
theorem dX8_cellOf_4 : decode cX8_cellOf 4 = .ok (.iload_n 1, 1) := by decide +kernel
theorem dX8_cellOf_5 : decode cX8_cellOf 5 = .ok (.iadd, 1) := by decide +kernel
theorem dX8_cellOf_6 : decode cX8_cellOf 6 = .ok (.ireturn, 1) := by decide +kernel
theorem dX8_earlyPosition_0 : decode cX8_earlyPosition 0 = .ok (.iload_n 0, 1) := by decide +kernel
theorem dX8_earlyPosition_1 : decode cX8_earlyPosition 1 = .ok (.ifCond .ne 7, 3) := by decide +kernel
theorem dX8_earlyPosition_4 : decode cX8_earlyPosition 4 = .ok (.iconst 0, 1) := by decide +kernel
theorem dX8_earlyPosition_5 : decode cX8_earlyPosition 5 = .ok (.goto 8, 3) := by decide +kernel
theorem dX8_earlyPosition_8 : decode cX8_earlyPosition 8 = .ok (.iconst 2, 1) := by decide +kernel
theorem dX8_earlyPosition_9 : decode cX8_earlyPosition 9 = .ok (.iload_n 0, 1) := by decide +kernel
theorem dX8_earlyPosition_10 : decode cX8_earlyPosition 10 = .ok (.imul, 1) := by decide +kernel
theorem dX8_earlyPosition_11 : decode cX8_earlyPosition 11 = .ok (.iconst 1, 1) := by decide +kernel
theorem dX8_earlyPosition_12 : decode cX8_earlyPosition 12 = .ok (.isub, 1) := by decide +kernel
theorem dX8_earlyPosition_13 : decode cX8_earlyPosition 13 = .ok (.ireturn, 1) := by decide +kernel
theorem dX9_init_0 : decode cX9_init 0 = .ok (.aload_n 0, 1) := by decide +kernel
theorem dX9_init_1 : decode cX9_init 1 = .ok (.invokespecial 1, 3) := by decide +kernel
theorem dX9_init_4 : decode cX9_init 4 = .ok (.aload_n 0, 1) := by decide +kernel
theorem dX9_init_5 : decode cX9_init 5 = .ok (.sipush 256, 3) := by decide +kernel
theorem dX9_init_8 : decode cX9_init 8 = .ok (.newarray .int, 2) := by decide +kernel
theorem dX9_init_10 : decode cX9_init 10 = .ok (.putfield 7, 3) := by decide +kernel
theorem dX9_init_13 : decode cX9_init 13 = .ok (.aload_n 0, 1) := by decide +kernel
theorem dX9_init_14 : decode cX9_init 14 = .ok (.sipush 256, 3) := by decide +kernel
theorem dX9_init_17 : decode cX9_init 17 = .ok (.newarray .int, 2) := by decide +kernel
theorem dX9_init_19 : decode cX9_init 19 = .ok (.putfield 13, 3) := by decide +kernel
theorem dX9_init_22 : decode cX9_init 22 = .ok (.aload_n 0, 1) := by decide +kernel
theorem dX9_init_23 : decode cX9_init 23 = .ok (.sipush 1024, 3) := by decide +kernel
theorem dX9_init_26 : decode cX9_init 26 = .ok (.newarray .int, 2) := by decide +kernel
theorem dX9_init_28 : decode cX9_init 28 = .ok (.putfield 16, 3) := by decide +kernel
theorem dX9_init_31 : decode cX9_init 31 = .ok (.aload_n 0, 1) := by decide +kernel
theorem dX9_init_32 : decode cX9_init 32 = .ok (.bipush 60, 2) := by decide +kernel
theorem dX9_init_34 : decode cX9_init 34 = .ok (.newarray .int, 2) := by decide +kernel
theorem dX9_init_36 : decode cX9_init 36 = .ok (.putfield 19, 3) := by decide +kernel
theorem dX9_init_39 : decode cX9_init 39 = .ok (.aload_n 0, 1) := by decide +kernel
theorem dX9_init_40 : decode cX9_init 40 = .ok (.bipush 12, 2) := by decide +kernel
theorem dX9_init_42 : decode cX9_init 42 = .ok (.newarray .int, 2) := by decide +kernel
theorem dX9_init_44 : decode cX9_init 44 = .ok (.putfield 22, 3) := by decide +kernel
theorem dX9_init_47 : decode cX9_init 47 = .ok (.aload_n 0, 1) := by decide +kernel
theorem dX9_init_48 : decode cX9_init 48 = .ok (.getfield 7, 3) := by decide +kernel
theorem dX9_init_51 : decode cX9_init 51 = .ok (.bipush 20, 2) := by decide +kernel
theorem dX9_init_53 : decode cX9_init 53 = .ok (.iconst 2, 1) := by decide +kernel
theorem dX9_init_54 : decode cX9_init 54 = .ok (.iastore, 1) := by decide +kernel
theorem dX9_init_55 : decode cX9_init 55 = .ok (.aload_n 0, 1) := by decide +kernel
theorem dX9_init_56 : decode cX9_init 56 = .ok (.getfield 7, 3) := by decide +kernel
theorem dX9_init_59 : decode cX9_init 59 = .ok (.bipush 21, 2) := by decide +kernel
theorem dX9_init_61 : decode cX9_init 61 = .ok (.iconst 5, 1) := by decide +kernel
theorem dX9_init_62 : decode cX9_init 62 = .ok (.iastore, 1) := by decide +kernel
theorem dX9_init_63 : decode cX9_init 63 = .ok (.aload_n 0, 1) := by decide +kernel
theorem dX9_init_64 : decode cX9_init 64 = .ok (.getfield 7, 3) := by decide +kernel
theorem dX9_init_67 : decode cX9_init 67 = .ok (.bipush 22, 2) := by decide +kernel
theorem dX9_init_69 : decode cX9_init 69 = .ok (.iconst 1, 1) := by decide +kernel
theorem dX9_init_70 : decode cX9_init 70 = .ok (.iastore, 1) := by decide +kernel
theorem dX9_init_71 : decode cX9_init 71 = .ok (.aload_n 0, 1) := by decide +kernel
theorem dX9_init_72 : decode cX9_init 72 = .ok (.getfield 7, 3) := by decide +kernel
theorem dX9_init_75 : decode cX9_init 75 = .ok (.bipush 23, 2) := by decide +kernel
theorem dX9_init_77 : decode cX9_init 77 = .ok (.iconst 3, 1) := by decide +kernel
theorem dX9_init_78 : decode cX9_init 78 = .ok (.iastore, 1) := by decide +kernel
theorem dX9_init_79 : decode cX9_init 79 = .ok (.return_, 1) := by decide +kernel
theorem dX9_in_0 : decode cX9_in 0 = .ok (.iload_n 0, 1) := by decide +kernel
theorem dX9_in_1 : decode cX9_in 1 = .ok (.iload_n 1, 1) := by decide +kernel
theorem dX9_in_2 : decode cX9_in 2 = .ok (.if_icmp .lt 12, 3) := by decide +kernel
theorem dX9_in_5 : decode cX9_in 5 = .ok (.iload_n 0, 1) := by decide +kernel
theorem dX9_in_6 : decode cX9_in 6 = .ok (.iload_n 2, 1) := by decide +kernel
theorem dX9_in_7 : decode cX9_in 7 = .ok (.if_icmp .gt 7, 3) := by decide +kernel
theorem dX9_in_10 : decode cX9_in 10 = .ok (.iconst 1, 1) := by decide +kernel
theorem dX9_in_11 : decode cX9_in 11 = .ok (.goto 4, 3) := by decide +kernel
theorem dX9_in_14 : decode cX9_in 14 = .ok (.iconst 0, 1) := by decide +kernel
theorem dX9_in_15 : decode cX9_in 15 = .ok (.ireturn, 1) := by decide +kernel
theorem dX9_begins_0 : decode cX9_begins 0 = .ok (.iconst 0, 1) := by decide +kernel
theorem dX9_begins_1 : decode cX9_begins 1 = .ok (.istore_n 1, 1) := by decide +kernel
theorem dX9_begins_2 : decode cX9_begins 2 = .ok (.iload_n 1, 1) := by decide +kernel
theorem dX9_begins_3 : decode cX9_begins 3 = .ok (.sipush 256, 3) := by decide +kernel
theorem dX9_begins_6 : decode cX9_begins 6 = .ok (.if_icmp .ge 21, 3) := by decide +kernel
theorem dX9_begins_9 : decode cX9_begins 9 = .ok (.aload_n 0, 1) := by decide +kernel
theorem dX9_begins_10 : decode cX9_begins 10 = .ok (.getfield 13, 3) := by decide +kernel
theorem dX9_begins_13 : decode cX9_begins 13 = .ok (.iload_n 1, 1) := by decide +kernel
theorem dX9_begins_14 : decode cX9_begins 14 = .ok (.aload_n 0, 1) := by decide +kernel
theorem dX9_begins_15 : decode cX9_begins 15 = .ok (.getfield 7, 3) := by decide +kernel
theorem dX9_begins_18 : decode cX9_begins 18 = .ok (.iload_n 1, 1) := by decide +kernel
theorem dX9_begins_19 : decode cX9_begins 19 = .ok (.iaload, 1) := by decide +kernel
theorem dX9_begins_20 : decode cX9_begins 20 = .ok (.iastore, 1) := by decide +kernel
theorem dX9_begins_21 : decode cX9_begins 21 = .ok (.iinc 1 1, 3) := by decide +kernel
theorem dX9_begins_24 : decode cX9_begins 24 = .ok (.goto (-22), 3) := by decide +kernel
theorem dX9_begins_27 : decode cX9_begins 27 = .ok (.return_, 1) := by decide +kernel
theorem dX9_returns_0 : decode cX9_returns 0 = .ok (.iconst 0, 1) := by decide +kernel
theorem dX9_returns_1 : decode cX9_returns 1 = .ok (.istore_n 1, 1) := by decide +kernel
theorem dX9_returns_2 : decode cX9_returns 2 = .ok (.iload_n 1, 1) := by decide +kernel
theorem dX9_returns_3 : decode cX9_returns 3 = .ok (.sipush 256, 3) := by decide +kernel
theorem dX9_returns_6 : decode cX9_returns 6 = .ok (.if_icmp .ge 21, 3) := by decide +kernel
theorem dX9_returns_9 : decode cX9_returns 9 = .ok (.aload_n 0, 1) := by decide +kernel
theorem dX9_returns_10 : decode cX9_returns 10 = .ok (.getfield 7, 3) := by decide +kernel
theorem dX9_returns_13 : decode cX9_returns 13 = .ok (.iload_n 1, 1) := by decide +kernel
theorem dX9_returns_14 : decode cX9_returns 14 = .ok (.aload_n 0, 1) := by decide +kernel
theorem dX9_returns_15 : decode cX9_returns 15 = .ok (.getfield 13, 3) := by decide +kernel
theorem dX9_returns_18 : decode cX9_returns 18 = .ok (.iload_n 1, 1) := by decide +kernel
theorem dX9_returns_19 : decode cX9_returns 19 = .ok (.iaload, 1) := by decide +kernel
theorem dX9_returns_20 : decode cX9_returns 20 = .ok (.iastore, 1) := by decide +kernel
theorem dX9_returns_21 : decode cX9_returns 21 = .ok (.iinc 1 1, 3) := by decide +kernel
theorem dX9_returns_24 : decode cX9_returns 24 = .ok (.goto (-22), 3) := by decide +kernel
theorem dX9_returns_27 : decode cX9_returns 27 = .ok (.return_, 1) := by decide +kernel
theorem dX9_acted_0 : decode cX9_acted 0 = .ok (.iload_n 1, 1) := by decide +kernel
theorem dX9_acted_1 : decode cX9_acted 1 = .ok (.ifCond .ge 9, 3) := by decide +kernel
theorem dX9_acted_4 : decode cX9_acted 4 = .ok (.aload_n 0, 1) := by decide +kernel
theorem dX9_acted_5 : decode cX9_acted 5 = .ok (.invokevirtual 25, 3) := by decide +kernel
theorem dX9_acted_8 : decode cX9_acted 8 = .ok (.iload_n 1, 1) := by decide +kernel
theorem dX9_acted_9 : decode cX9_acted 9 = .ok (.ireturn, 1) := by decide +kernel
theorem dX9_acted_10 : decode cX9_acted 10 = .ok (.aload_n 0, 1) := by decide +kernel
theorem dX9_acted_11 : decode cX9_acted 11 = .ok (.getfield 28, 3) := by decide +kernel
theorem dX9_acted_14 : decode cX9_acted 14 = .ok (.iconst 4, 1) := by decide +kernel
theorem dX9_acted_15 : decode cX9_acted 15 = .ok (.if_icmp .ne 44, 3) := by decide +kernel
theorem dX9_acted_18 : decode cX9_acted 18 = .ok (.iconst 0, 1) := by decide +kernel
theorem dX9_acted_19 : decode cX9_acted 19 = .ok (.istore_n 2, 1) := by decide +kernel
theorem dX9_acted_20 : decode cX9_acted 20 = .ok (.iload_n 2, 1) := by decide +kernel
theorem dX9_acted_21 : decode cX9_acted 21 = .ok (.sipush 768, 3) := by decide +kernel
theorem dX9_acted_24 : decode cX9_acted 24 = .ok (.if_icmp .ge 25, 3) := by decide +kernel
theorem dX9_acted_27 : decode cX9_acted 27 = .ok (.aload_n 0, 1) := by decide +kernel
theorem dX9_acted_28 : decode cX9_acted 28 = .ok (.getfield 16, 3) := by decide +kernel
theorem dX9_acted_31 : decode cX9_acted 31 = .ok (.iload_n 2, 1) := by decide +kernel
theorem dX9_acted_32 : decode cX9_acted 32 = .ok (.aload_n 0, 1) := by decide +kernel
theorem dX9_acted_33 : decode cX9_acted 33 = .ok (.getfield 16, 3) := by decide +kernel
theorem dX9_acted_36 : decode cX9_acted 36 = .ok (.iload_n 2, 1) := by decide +kernel
