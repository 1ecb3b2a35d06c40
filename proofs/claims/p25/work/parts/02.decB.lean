theorem dX4_pass_6 : decode cX4_pass 6 = .ok (.aload_n 0, 1) := by decide +kernel
theorem dX4_pass_7 : decode cX4_pass 7 = .ok (.getfield 28, 3) := by decide +kernel
theorem dX4_pass_10 : decode cX4_pass 10 = .ok (.getfield 105, 3) := by decide +kernel
theorem dX4_pass_13 : decode cX4_pass 13 = .ok (.ifCond .ne 7, 3) := by decide +kernel
theorem dX4_pass_16 : decode cX4_pass 16 = .ok (.aload_n 0, 1) := by decide +kernel
theorem dX4_pass_17 : decode cX4_pass 17 = .ok (.invokevirtual 108, 3) := by decide +kernel
theorem dX4_pass_20 : decode cX4_pass 20 = .ok (.aload_n 0, 1) := by decide +kernel
theorem dX4_pass_21 : decode cX4_pass 21 = .ok (.getfield 28, 3) := by decide +kernel
theorem dX4_pass_24 : decode cX4_pass 24 = .ok (.getfield 105, 3) := by decide +kernel
theorem dX4_pass_27 : decode cX4_pass 27 = .ok (.ifCond .eq 21, 3) := by decide +kernel
theorem dX4_pass_30 : decode cX4_pass 30 = .ok (.iconst 1, 1) := by decide +kernel
theorem dX4_pass_31 : decode cX4_pass 31 = .ok (.iload_n 2, 1) := by decide +kernel
theorem dX4_pass_32 : decode cX4_pass 32 = .ok (.aload_n 0, 1) := by decide +kernel
theorem dX4_pass_33 : decode cX4_pass 33 = .ok (.getfield 28, 3) := by decide +kernel
theorem dX4_pass_36 : decode cX4_pass 36 = .ok (.getfield 111, 3) := by decide +kernel
theorem dX4_pass_39 : decode cX4_pass 39 = .ok (.invokestatic 114, 3) := by decide +kernel
theorem dX4_pass_42 : decode cX4_pass 42 = .ok (.invokestatic 120, 3) := by decide +kernel
theorem dX4_pass_45 : decode cX4_pass 45 = .ok (.goto 4, 3) := by decide +kernel
theorem dX4_pass_48 : decode cX4_pass 48 = .ok (.iload_n 2, 1) := by decide +kernel
theorem dX4_pass_49 : decode cX4_pass 49 = .ok (.istore_n 3, 1) := by decide +kernel
theorem dX4_pass_50 : decode cX4_pass 50 = .ok (.aload_n 0, 1) := by decide +kernel
theorem dX4_pass_51 : decode cX4_pass 51 = .ok (.getfield 35, 3) := by decide +kernel
theorem dX4_pass_54 : decode cX4_pass 54 = .ok (.dup, 1) := by decide +kernel
theorem dX4_pass_55 : decode cX4_pass 55 = .ok (.getfield 95, 3) := by decide +kernel
theorem dX4_pass_58 : decode cX4_pass 58 = .ok (.iload_n 3, 1) := by decide +kernel
theorem dX4_pass_59 : decode cX4_pass 59 = .ok (.iadd, 1) := by decide +kernel
theorem dX4_pass_60 : decode cX4_pass 60 = .ok (.putfield 95, 3) := by decide +kernel
theorem dX4_pass_63 : decode cX4_pass 63 = .ok (.aload_n 0, 1) := by decide +kernel
theorem dX4_pass_64 : decode cX4_pass 64 = .ok (.getfield 28, 3) := by decide +kernel
theorem dX4_pass_67 : decode cX4_pass 67 = .ok (.getfield 105, 3) := by decide +kernel
theorem dX4_pass_70 : decode cX4_pass 70 = .ok (.ifCond .eq 8, 3) := by decide +kernel
theorem dX4_pass_73 : decode cX4_pass 73 = .ok (.aload_n 0, 1) := by decide +kernel
theorem dX4_pass_74 : decode cX4_pass 74 = .ok (.iload_n 3, 1) := by decide +kernel
theorem dX4_pass_75 : decode cX4_pass 75 = .ok (.invokevirtual 123, 3) := by decide +kernel
theorem dX4_pass_78 : decode cX4_pass 78 = .ok (.iload_n 2, 1) := by decide +kernel
theorem dX4_pass_79 : decode cX4_pass 79 = .ok (.iload_n 3, 1) := by decide +kernel
theorem dX4_pass_80 : decode cX4_pass 80 = .ok (.isub, 1) := by decide +kernel
theorem dX4_pass_81 : decode cX4_pass 81 = .ok (.istore_n 2, 1) := by decide +kernel
theorem dX4_pass_82 : decode cX4_pass 82 = .ok (.goto (-80), 3) := by decide +kernel
theorem dX4_pass_85 : decode cX4_pass 85 = .ok (.return_, 1) := by decide +kernel
theorem dX4_isFull_0 : decode cX4_isFull 0 = .ok (.aload_n 0, 1) := by decide +kernel
theorem dX4_isFull_1 : decode cX4_isFull 1 = .ok (.getfield 80, 3) := by decide +kernel
theorem dX4_isFull_4 : decode cX4_isFull 4 = .ok (.bipush 16, 2) := by decide +kernel
theorem dX4_isFull_6 : decode cX4_isFull 6 = .ok (.if_icmp .lt 7, 3) := by decide +kernel
theorem dX4_isFull_9 : decode cX4_isFull 9 = .ok (.iconst 1, 1) := by decide +kernel
theorem dX4_isFull_10 : decode cX4_isFull 10 = .ok (.goto 4, 3) := by decide +kernel
theorem dX4_isFull_13 : decode cX4_isFull 13 = .ok (.iconst 0, 1) := by decide +kernel
theorem dX4_isFull_14 : decode cX4_isFull 14 = .ok (.ireturn, 1) := by decide +kernel
theorem dX4_takeRequests_0 : decode cX4_takeRequests 0 = .ok (.iconst 0, 1) := by decide +kernel
theorem dX4_takeRequests_1 : decode cX4_takeRequests 1 = .ok (.istore_n 1, 1) := by decide +kernel
theorem dX4_takeRequests_2 : decode cX4_takeRequests 2 = .ok (.iload_n 1, 1) := by decide +kernel
theorem dX4_takeRequests_3 : decode cX4_takeRequests 3 = .ok (.bipush 8, 2) := by decide +kernel
theorem dX4_takeRequests_5 : decode cX4_takeRequests 5 = .ok (.if_icmp .ge 55, 3) := by decide +kernel
theorem dX4_takeRequests_8 : decode cX4_takeRequests 8 = .ok (.aload_n 0, 1) := by decide +kernel
theorem dX4_takeRequests_9 : decode cX4_takeRequests 9 = .ok (.getfield 28, 3) := by decide +kernel
theorem dX4_takeRequests_12 : decode cX4_takeRequests 12 = .ok (.getfield 105, 3) := by decide +kernel
theorem dX4_takeRequests_15 : decode cX4_takeRequests 15 = .ok (.ifCond .ne 20, 3) := by decide +kernel
theorem dX4_takeRequests_18 : decode cX4_takeRequests 18 = .ok (.aload_n 0, 1) := by decide +kernel
theorem dX4_takeRequests_19 : decode cX4_takeRequests 19 = .ok (.invokevirtual 126, 3) := by decide +kernel
theorem dX4_takeRequests_22 : decode cX4_takeRequests 22 = .ok (.ifCond .ne 13, 3) := by decide +kernel
theorem dX4_takeRequests_25 : decode cX4_takeRequests 25 = .ok (.aload_n 0, 1) := by decide +kernel
theorem dX4_takeRequests_26 : decode cX4_takeRequests 26 = .ok (.getfield 21, 3) := by decide +kernel
theorem dX4_takeRequests_29 : decode cX4_takeRequests 29 = .ok (.invokevirtual 87, 3) := by decide +kernel
theorem dX4_takeRequests_32 : decode cX4_takeRequests 32 = .ok (.ifCond .ne 4, 3) := by decide +kernel
theorem dX4_takeRequests_35 : decode cX4_takeRequests 35 = .ok (.return_, 1) := by decide +kernel
theorem dX4_takeRequests_36 : decode cX4_takeRequests 36 = .ok (.aload_n 0, 1) := by decide +kernel
theorem dX4_takeRequests_37 : decode cX4_takeRequests 37 = .ok (.invokevirtual 130, 3) := by decide +kernel
theorem dX4_takeRequests_40 : decode cX4_takeRequests 40 = .ok (.ifCond .ne 7, 3) := by decide +kernel
theorem dX4_takeRequests_43 : decode cX4_takeRequests 43 = .ok (.aload_n 0, 1) := by decide +kernel
theorem dX4_takeRequests_44 : decode cX4_takeRequests 44 = .ok (.invokevirtual 133, 3) := by decide +kernel
theorem dX4_takeRequests_47 : decode cX4_takeRequests 47 = .ok (.aload_n 0, 1) := by decide +kernel
theorem dX4_takeRequests_48 : decode cX4_takeRequests 48 = .ok (.getfield 21, 3) := by decide +kernel
theorem dX4_takeRequests_51 : decode cX4_takeRequests 51 = .ok (.invokevirtual 136, 3) := by decide +kernel
theorem dX4_takeRequests_54 : decode cX4_takeRequests 54 = .ok (.iinc 1 1, 3) := by decide +kernel
theorem dX4_takeRequests_57 : decode cX4_takeRequests 57 = .ok (.goto (-55), 3) := by decide +kernel
theorem dX4_takeRequests_60 : decode cX4_takeRequests 60 = .ok (.return_, 1) := by decide +kernel
theorem dX4_isOutdated_0 : decode cX4_isOutdated 0 = .ok (.aload_n 0, 1) := by decide +kernel
theorem dX4_isOutdated_1 : decode cX4_isOutdated 1 = .ok (.getfield 21, 3) := by decide +kernel
theorem dX4_isOutdated_4 : decode cX4_isOutdated 4 = .ok (.iconst 0, 1) := by decide +kernel
theorem dX4_isOutdated_5 : decode cX4_isOutdated 5 = .ok (.invokevirtual 139, 3) := by decide +kernel
theorem dX4_isOutdated_8 : decode cX4_isOutdated 8 = .ok (.istore_n 1, 1) := by decide +kernel
theorem dX4_isOutdated_9 : decode cX4_isOutdated 9 = .ok (.iload_n 1, 1) := by decide +kernel
theorem dX4_isOutdated_10 : decode cX4_isOutdated 10 = .ok (.ifCond .eq 10, 3) := by decide +kernel
theorem dX4_isOutdated_13 : decode cX4_isOutdated 13 = .ok (.iload_n 1, 1) := by decide +kernel
theorem dX4_isOutdated_14 : decode cX4_isOutdated 14 = .ok (.iconst 3, 1) := by decide +kernel
theorem dX4_isOutdated_15 : decode cX4_isOutdated 15 = .ok (.if_icmp .eq 5, 3) := by decide +kernel
theorem dX4_isOutdated_18 : decode cX4_isOutdated 18 = .ok (.iconst 0, 1) := by decide +kernel
theorem dX4_isOutdated_19 : decode cX4_isOutdated 19 = .ok (.ireturn, 1) := by decide +kernel
theorem dX4_isOutdated_20 : decode cX4_isOutdated 20 = .ok (.aload_n 0, 1) := by decide +kernel
theorem dX4_isOutdated_21 : decode cX4_isOutdated 21 = .ok (.getfield 12, 3) := by decide +kernel
theorem dX4_isOutdated_24 : decode cX4_isOutdated 24 = .ok (.aload_n 0, 1) := by decide +kernel
theorem dX4_isOutdated_25 : decode cX4_isOutdated 25 = .ok (.getfield 21, 3) := by decide +kernel
theorem dX4_isOutdated_28 : decode cX4_isOutdated 28 = .ok (.iconst 0, 1) := by decide +kernel
theorem dX4_isOutdated_29 : decode cX4_isOutdated 29 = .ok (.invokevirtual 143, 3) := by decide +kernel
theorem dX4_isOutdated_32 : decode cX4_isOutdated 32 = .ok (.invokevirtual 146, 3) := by decide +kernel
theorem dX4_isOutdated_35 : decode cX4_isOutdated 35 = .ok (.istore_n 2, 1) := by decide +kernel
theorem dX4_isOutdated_36 : decode cX4_isOutdated 36 = .ok (.iload_n 2, 1) := by decide +kernel
theorem dX4_isOutdated_37 : decode cX4_isOutdated 37 = .ok (.iconst (-1), 1) := by decide +kernel
theorem dX4_isOutdated_38 : decode cX4_isOutdated 38 = .ok (.if_icmp .eq 22, 3) := by decide +kernel
theorem dX4_isOutdated_41 : decode cX4_isOutdated 41 = .ok (.aload_n 0, 1) := by decide +kernel
theorem dX4_isOutdated_42 : decode cX4_isOutdated 42 = .ok (.getfield 12, 3) := by decide +kernel
theorem dX4_isOutdated_45 : decode cX4_isOutdated 45 = .ok (.iload_n 2, 1) := by decide +kernel
theorem dX4_isOutdated_46 : decode cX4_isOutdated 46 = .ok (.invokevirtual 149, 3) := by decide +kernel
theorem dX4_isOutdated_49 : decode cX4_isOutdated 49 = .ok (.aload_n 0, 1) := by decide +kernel
theorem dX4_isOutdated_50 : decode cX4_isOutdated 50 = .ok (.getfield 21, 3) := by decide +kernel
theorem dX4_isOutdated_53 : decode cX4_isOutdated 53 = .ok (.iconst 0, 1) := by decide +kernel
theorem dX4_isOutdated_54 : decode cX4_isOutdated 54 = .ok (.invokevirtual 152, 3) := by decide +kernel
theorem dX4_isOutdated_57 : decode cX4_isOutdated 57 = .ok (.if_icmp .eq 7, 3) := by decide +kernel
theorem dX4_isOutdated_60 : decode cX4_isOutdated 60 = .ok (.iconst 1, 1) := by decide +kernel
theorem dX4_isOutdated_61 : decode cX4_isOutdated 61 = .ok (.goto 4, 3) := by decide +kernel
theorem dX4_isOutdated_64 : decode cX4_isOutdated 64 = .ok (.iconst 0, 1) := by decide +kernel
theorem dX4_isOutdated_65 : decode cX4_isOutdated 65 = .ok (.ireturn, 1) := by decide +kernel
theorem dX4_beginWriting_0 : decode cX4_beginWriting 0 = .ok (.getstatic 153, 3) := by decide +kernel
theorem dX4_beginWriting_3 : decode cX4_beginWriting 3 = .ok (.aload_n 0, 1) := by decide +kernel
theorem dX4_beginWriting_4 : decode cX4_beginWriting 4 = .ok (.getfield 80, 3) := by decide +kernel
theorem dX4_beginWriting_7 : decode cX4_beginWriting 7 = .ok (.invokestatic 156, 3) := by decide +kernel
theorem dX4_beginWriting_10 : decode cX4_beginWriting 10 = .ok (.istore_n 1, 1) := by decide +kernel
theorem dX4_beginWriting_11 : decode cX4_beginWriting 11 = .ok (.aload_n 0, 1) := by decide +kernel
theorem dX4_beginWriting_12 : decode cX4_beginWriting 12 = .ok (.getfield 28, 3) := by decide +kernel
theorem dX4_beginWriting_15 : decode cX4_beginWriting 15 = .ok (.iconst 1, 1) := by decide +kernel
theorem dX4_beginWriting_16 : decode cX4_beginWriting 16 = .ok (.putfield 105, 3) := by decide +kernel
theorem dX4_beginWriting_19 : decode cX4_beginWriting 19 = .ok (.aload_n 0, 1) := by decide +kernel
theorem dX4_beginWriting_20 : decode cX4_beginWriting 20 = .ok (.getfield 28, 3) := by decide +kernel
theorem dX4_beginWriting_23 : decode cX4_beginWriting 23 = .ok (.getstatic 160, 3) := by decide +kernel
theorem dX4_beginWriting_26 : decode cX4_beginWriting 26 = .ok (.aload_n 0, 1) := by decide +kernel
theorem dX4_beginWriting_27 : decode cX4_beginWriting 27 = .ok (.getfield 80, 3) := by decide +kernel
theorem dX4_beginWriting_30 : decode cX4_beginWriting 30 = .ok (.invokestatic 156, 3) := by decide +kernel
theorem dX4_beginWriting_33 : decode cX4_beginWriting 33 = .ok (.iconst 1, 1) := by decide +kernel
theorem dX4_beginWriting_34 : decode cX4_beginWriting 34 = .ok (.if_icmp .ne 7, 3) := by decide +kernel
theorem dX4_beginWriting_37 : decode cX4_beginWriting 37 = .ok (.iconst 1, 1) := by decide +kernel
theorem dX4_beginWriting_38 : decode cX4_beginWriting 38 = .ok (.goto 4, 3) := by decide +kernel
theorem dX4_beginWriting_41 : decode cX4_beginWriting 41 = .ok (.iconst 0, 1) := by decide +kernel
theorem dX4_beginWriting_42 : decode cX4_beginWriting 42 = .ok (.putfield 163, 3) := by decide +kernel
theorem dX4_beginWriting_45 : decode cX4_beginWriting 45 = .ok (.aload_n 0, 1) := by decide +kernel
theorem dX4_beginWriting_46 : decode cX4_beginWriting 46 = .ok (.getfield 28, 3) := by decide +kernel
theorem dX4_beginWriting_49 : decode cX4_beginWriting 49 = .ok (.aload_n 0, 1) := by decide +kernel
theorem dX4_beginWriting_50 : decode cX4_beginWriting 50 = .ok (.getfield 21, 3) := by decide +kernel
theorem dX4_beginWriting_53 : decode cX4_beginWriting 53 = .ok (.iconst 0, 1) := by decide +kernel
theorem dX4_beginWriting_54 : decode cX4_beginWriting 54 = .ok (.invokevirtual 139, 3) := by decide +kernel
theorem dX4_beginWriting_57 : decode cX4_beginWriting 57 = .ok (.putfield 166, 3) := by decide +kernel
theorem dX4_beginWriting_60 : decode cX4_beginWriting 60 = .ok (.aload_n 0, 1) := by decide +kernel
theorem dX4_beginWriting_61 : decode cX4_beginWriting 61 = .ok (.getfield 28, 3) := by decide +kernel
theorem dX4_beginWriting_64 : decode cX4_beginWriting 64 = .ok (.aload_n 0, 1) := by decide +kernel
theorem dX4_beginWriting_65 : decode cX4_beginWriting 65 = .ok (.getfield 76, 3) := by decide +kernel
theorem dX4_beginWriting_68 : decode cX4_beginWriting 68 = .ok (.aload_n 0, 1) := by decide +kernel
theorem dX4_beginWriting_69 : decode cX4_beginWriting 69 = .ok (.getfield 80, 3) := by decide +kernel
theorem dX4_beginWriting_72 : decode cX4_beginWriting 72 = .ok (.invokestatic 168, 3) := by decide +kernel
theorem dX4_beginWriting_75 : decode cX4_beginWriting 75 = .ok (.putfield 171, 3) := by decide +kernel
theorem dX4_beginWriting_78 : decode cX4_beginWriting 78 = .ok (.aload_n 0, 1) := by decide +kernel
theorem dX4_beginWriting_79 : decode cX4_beginWriting 79 = .ok (.getfield 28, 3) := by decide +kernel
theorem dX4_beginWriting_82 : decode cX4_beginWriting 82 = .ok (.aload_n 0, 1) := by decide +kernel
theorem dX4_beginWriting_83 : decode cX4_beginWriting 83 = .ok (.getfield 76, 3) := by decide +kernel
theorem dX4_beginWriting_86 : decode cX4_beginWriting 86 = .ok (.iload_n 1, 1) := by decide +kernel
theorem dX4_beginWriting_87 : decode cX4_beginWriting 87 = .ok (.invokestatic 174, 3) := by decide +kernel
theorem dX4_beginWriting_90 : decode cX4_beginWriting 90 = .ok (.invokestatic 168, 3) := by decide +kernel
theorem dX4_beginWriting_93 : decode cX4_beginWriting 93 = .ok (.putfield 177, 3) := by decide +kernel
theorem dX4_beginWriting_96 : decode cX4_beginWriting 96 = .ok (.aload_n 0, 1) := by decide +kernel
theorem dX4_beginWriting_97 : decode cX4_beginWriting 97 = .ok (.getfield 28, 3) := by decide +kernel
theorem dX4_beginWriting_100 : decode cX4_beginWriting 100 = .ok (.aload_n 0, 1) := by decide +kernel
theorem dX4_beginWriting_101 : decode cX4_beginWriting 101 = .ok (.getfield 76, 3) := by decide +kernel
theorem dX4_beginWriting_104 : decode cX4_beginWriting 104 = .ok (.bipush 16, 2) := by decide +kernel
theorem dX4_beginWriting_106 : decode cX4_beginWriting 106 = .ok (.iload_n 1, 1) := by decide +kernel
theorem dX4_beginWriting_107 : decode cX4_beginWriting 107 = .ok (.iadd, 1) := by decide +kernel
theorem dX4_beginWriting_108 : decode cX4_beginWriting 108 = .ok (.invokestatic 168, 3) := by decide +kernel
theorem dX4_beginWriting_111 : decode cX4_beginWriting 111 = .ok (.putfield 180, 3) := by decide +kernel
theorem dX4_beginWriting_114 : decode cX4_beginWriting 114 = .ok (.aload_n 0, 1) := by decide +kernel
theorem dX4_beginWriting_115 : decode cX4_beginWriting 115 = .ok (.getfield 28, 3) := by decide +kernel
theorem dX4_beginWriting_118 : decode cX4_beginWriting 118 = .ok (.aload_n 0, 1) := by decide +kernel
theorem dX4_beginWriting_119 : decode cX4_beginWriting 119 = .ok (.getfield 39, 3) := by decide +kernel
theorem dX4_beginWriting_122 : decode cX4_beginWriting 122 = .ok (.aload_n 0, 1) := by decide +kernel
theorem dX4_beginWriting_123 : decode cX4_beginWriting 123 = .ok (.getfield 28, 3) := by decide +kernel
theorem dX4_beginWriting_126 : decode cX4_beginWriting 126 = .ok (.getfield 163, 3) := by decide +kernel
theorem dX4_beginWriting_129 : decode cX4_beginWriting 129 = .ok (.ifCond .eq 7, 3) := by decide +kernel
theorem dX4_beginWriting_132 : decode cX4_beginWriting 132 = .ok (.iconst 1, 1) := by decide +kernel
theorem dX4_beginWriting_133 : decode cX4_beginWriting 133 = .ok (.goto 4, 3) := by decide +kernel
theorem dX4_beginWriting_136 : decode cX4_beginWriting 136 = .ok (.iconst 0, 1) := by decide +kernel
theorem dX4_beginWriting_137 : decode cX4_beginWriting 137 = .ok (.invokestatic 156, 3) := by decide +kernel
theorem dX4_beginWriting_140 : decode cX4_beginWriting 140 = .ok (.aload_n 0, 1) := by decide +kernel
theorem dX4_beginWriting_141 : decode cX4_beginWriting 141 = .ok (.getfield 43, 3) := by decide +kernel
theorem dX4_beginWriting_144 : decode cX4_beginWriting 144 = .ok (.iload_n 1, 1) := by decide +kernel
theorem dX4_beginWriting_145 : decode cX4_beginWriting 145 = .ok (.invokestatic 156, 3) := by decide +kernel
theorem dX4_beginWriting_148 : decode cX4_beginWriting 148 = .ok (.iadd, 1) := by decide +kernel
theorem dX4_beginWriting_149 : decode cX4_beginWriting 149 = .ok (.aload_n 0, 1) := by decide +kernel
theorem dX4_beginWriting_150 : decode cX4_beginWriting 150 = .ok (.getfield 46, 3) := by decide +kernel
theorem dX4_beginWriting_153 : decode cX4_beginWriting 153 = .ok (.aload_n 0, 1) := by decide +kernel
theorem dX4_beginWriting_154 : decode cX4_beginWriting 154 = .ok (.getfield 76, 3) := by decide +kernel
theorem dX4_beginWriting_157 : decode cX4_beginWriting 157 = .ok (.invokestatic 156, 3) := by decide +kernel
theorem dX4_beginWriting_160 : decode cX4_beginWriting 160 = .ok (.aload_n 0, 1) := by decide +kernel
theorem dX4_beginWriting_161 : decode cX4_beginWriting 161 = .ok (.getfield 39, 3) := by decide +kernel
theorem dX4_beginWriting_164 : decode cX4_beginWriting 164 = .ok (.iconst 3, 1) := by decide +kernel
theorem dX4_beginWriting_165 : decode cX4_beginWriting 165 = .ok (.invokestatic 156, 3) := by decide +kernel
theorem dX4_beginWriting_168 : decode cX4_beginWriting 168 = .ok (.invokestatic 183, 3) := by decide +kernel
theorem dX4_beginWriting_171 : decode cX4_beginWriting 171 = .ok (.iadd, 1) := by decide +kernel
theorem dX4_beginWriting_172 : decode cX4_beginWriting 172 = .ok (.putfield 186, 3) := by decide +kernel
theorem dX4_beginWriting_175 : decode cX4_beginWriting 175 = .ok (.aload_n 0, 1) := by decide +kernel
theorem dX4_beginWriting_176 : decode cX4_beginWriting 176 = .ok (.getfield 28, 3) := by decide +kernel
theorem dX4_beginWriting_179 : decode cX4_beginWriting 179 = .ok (.aload_n 0, 1) := by decide +kernel
theorem dX4_beginWriting_180 : decode cX4_beginWriting 180 = .ok (.getfield 28, 3) := by decide +kernel
theorem dX4_beginWriting_183 : decode cX4_beginWriting 183 = .ok (.getfield 186, 3) := by decide +kernel
theorem dX4_beginWriting_186 : decode cX4_beginWriting 186 = .ok (.putfield 111, 3) := by decide +kernel
theorem dX4_beginWriting_189 : decode cX4_beginWriting 189 = .ok (.aload_n 0, 1) := by decide +kernel
theorem dX4_beginWriting_190 : decode cX4_beginWriting 190 = .ok (.dup, 1) := by decide +kernel
theorem dX4_beginWriting_191 : decode cX4_beginWriting 191 = .ok (.getfield 80, 3) := by decide +kernel
theorem dX4_beginWriting_194 : decode cX4_beginWriting 194 = .ok (.iconst 1, 1) := by decide +kernel
theorem dX4_beginWriting_195 : decode cX4_beginWriting 195 = .ok (.iadd, 1) := by decide +kernel
theorem dX4_beginWriting_196 : decode cX4_beginWriting 196 = .ok (.putfield 80, 3) := by decide +kernel
theorem dX4_beginWriting_199 : decode cX4_beginWriting 199 = .ok (.aload_n 0, 1) := by decide +kernel
theorem dX4_beginWriting_200 : decode cX4_beginWriting 200 = .ok (.getfield 35, 3) := by decide +kernel
theorem dX4_beginWriting_203 : decode cX4_beginWriting 203 = .ok (.dup, 1) := by decide +kernel
theorem dX4_beginWriting_204 : decode cX4_beginWriting 204 = .ok (.getfield 189, 3) := by decide +kernel
theorem dX4_beginWriting_207 : decode cX4_beginWriting 207 = .ok (.iconst 1, 1) := by decide +kernel
theorem dX4_beginWriting_208 : decode cX4_beginWriting 208 = .ok (.iadd, 1) := by decide +kernel
theorem dX4_beginWriting_209 : decode cX4_beginWriting 209 = .ok (.putfield 189, 3) := by decide +kernel
theorem dX4_beginWriting_212 : decode cX4_beginWriting 212 = .ok (.aload_n 0, 1) := by decide +kernel
theorem dX4_beginWriting_213 : decode cX4_beginWriting 213 = .ok (.getfield 12, 3) := by decide +kernel
theorem dX4_beginWriting_216 : decode cX4_beginWriting 216 = .ok (.aload_n 0, 1) := by decide +kernel
theorem dX4_beginWriting_217 : decode cX4_beginWriting 217 = .ok (.getfield 28, 3) := by decide +kernel
theorem dX4_beginWriting_220 : decode cX4_beginWriting 220 = .ok (.getfield 171, 3) := by decide +kernel
theorem dX4_beginWriting_223 : decode cX4_beginWriting 223 = .ok (.aload_n 0, 1) := by decide +kernel
theorem dX4_beginWriting_224 : decode cX4_beginWriting 224 = .ok (.getfield 21, 3) := by decide +kernel
theorem dX4_beginWriting_227 : decode cX4_beginWriting 227 = .ok (.iconst 0, 1) := by decide +kernel
theorem dX4_beginWriting_228 : decode cX4_beginWriting 228 = .ok (.invokevirtual 143, 3) := by decide +kernel
theorem dX4_beginWriting_231 : decode cX4_beginWriting 231 = .ok (.aload_n 0, 1) := by decide +kernel
theorem dX4_beginWriting_232 : decode cX4_beginWriting 232 = .ok (.getfield 21, 3) := by decide +kernel
theorem dX4_beginWriting_235 : decode cX4_beginWriting 235 = .ok (.iconst 0, 1) := by decide +kernel
theorem dX4_beginWriting_236 : decode cX4_beginWriting 236 = .ok (.invokevirtual 192, 3) := by decide +kernel
theorem dX4_beginWriting_239 : decode cX4_beginWriting 239 = .ok (.aload_n 0, 1) := by decide +kernel
theorem dX4_beginWriting_240 : decode cX4_beginWriting 240 = .ok (.getfield 35, 3) := by decide +kernel
theorem dX4_beginWriting_243 : decode cX4_beginWriting 243 = .ok (.getfield 189, 3) := by decide +kernel
theorem dX4_beginWriting_246 : decode cX4_beginWriting 246 = .ok (.invokevirtual 195, 3) := by decide +kernel
theorem dX4_beginWriting_249 : decode cX4_beginWriting 249 = .ok (.aload_n 0, 1) := by decide +kernel
theorem dX4_beginWriting_250 : decode cX4_beginWriting 250 = .ok (.getfield 28, 3) := by decide +kernel
theorem dX4_beginWriting_253 : decode cX4_beginWriting 253 = .ok (.getfield 163, 3) := by decide +kernel
theorem dX4_beginWriting_256 : decode cX4_beginWriting 256 = .ok (.ifCond .eq 67, 3) := by decide +kernel
theorem dX4_beginWriting_259 : decode cX4_beginWriting 259 = .ok (.aload_n 0, 1) := by decide +kernel
theorem dX4_beginWriting_260 : decode cX4_beginWriting 260 = .ok (.getfield 39, 3) := by decide +kernel
theorem dX4_beginWriting_263 : decode cX4_beginWriting 263 = .ok (.iconst 2, 1) := by decide +kernel
theorem dX4_beginWriting_264 : decode cX4_beginWriting 264 = .ok (.invokestatic 156, 3) := by decide +kernel
theorem dX4_beginWriting_267 : decode cX4_beginWriting 267 = .ok (.iconst 1, 1) := by decide +kernel
theorem dX4_beginWriting_268 : decode cX4_beginWriting 268 = .ok (.if_icmp .ne 55, 3) := by decide +kernel
theorem dX4_beginWriting_271 : decode cX4_beginWriting 271 = .ok (.aload_n 0, 1) := by decide +kernel
theorem dX4_beginWriting_272 : decode cX4_beginWriting 272 = .ok (.getfield 12, 3) := by decide +kernel
theorem dX4_beginWriting_275 : decode cX4_beginWriting 275 = .ok (.aload_n 0, 1) := by decide +kernel
theorem dX4_beginWriting_276 : decode cX4_beginWriting 276 = .ok (.getfield 28, 3) := by decide +kernel
theorem dX4_beginWriting_279 : decode cX4_beginWriting 279 = .ok (.getfield 177, 3) := by decide +kernel
theorem dX4_beginWriting_282 : decode cX4_beginWriting 282 = .ok (.invokevirtual 198, 3) := by decide +kernel
theorem dX4_beginWriting_285 : decode cX4_beginWriting 285 = .ok (.iconst 2, 1) := by decide +kernel
theorem dX4_beginWriting_286 : decode cX4_beginWriting 286 = .ok (.if_icmp .ne 37, 3) := by decide +kernel
theorem dX4_beginWriting_289 : decode cX4_beginWriting 289 = .ok (.aload_n 0, 1) := by decide +kernel
theorem dX4_beginWriting_290 : decode cX4_beginWriting 290 = .ok (.getfield 12, 3) := by decide +kernel
theorem dX4_beginWriting_293 : decode cX4_beginWriting 293 = .ok (.aload_n 0, 1) := by decide +kernel
theorem dX4_beginWriting_294 : decode cX4_beginWriting 294 = .ok (.getfield 28, 3) := by decide +kernel
theorem dX4_beginWriting_297 : decode cX4_beginWriting 297 = .ok (.getfield 177, 3) := by decide +kernel
theorem dX4_beginWriting_300 : decode cX4_beginWriting 300 = .ok (.aload_n 0, 1) := by decide +kernel
theorem dX4_beginWriting_301 : decode cX4_beginWriting 301 = .ok (.getfield 28, 3) := by decide +kernel
theorem dX4_beginWriting_304 : decode cX4_beginWriting 304 = .ok (.getfield 180, 3) := by decide +kernel
theorem dX4_beginWriting_307 : decode cX4_beginWriting 307 = .ok (.invokevirtual 201, 3) := by decide +kernel
theorem dX4_beginWriting_310 : decode cX4_beginWriting 310 = .ok (.aload_n 0, 1) := by decide +kernel
theorem dX4_beginWriting_311 : decode cX4_beginWriting 311 = .ok (.getfield 28, 3) := by decide +kernel
theorem dX4_beginWriting_314 : decode cX4_beginWriting 314 = .ok (.dup, 1) := by decide +kernel
theorem dX4_beginWriting_315 : decode cX4_beginWriting 315 = .ok (.getfield 111, 3) := by decide +kernel
theorem dX4_beginWriting_318 : decode cX4_beginWriting 318 = .ok (.iconst 2, 1) := by decide +kernel
theorem dX4_beginWriting_319 : decode cX4_beginWriting 319 = .ok (.iadd, 1) := by decide +kernel
theorem dX4_beginWriting_320 : decode cX4_beginWriting 320 = .ok (.putfield 111, 3) := by decide +kernel
theorem dX4_beginWriting_323 : decode cX4_beginWriting 323 = .ok (.return_, 1) := by decide +kernel
theorem dX4_goOn_0 : decode cX4_goOn 0 = .ok (.aload_n 0, 1) := by decide +kernel
theorem dX4_goOn_1 : decode cX4_goOn 1 = .ok (.getfield 28, 3) := by decide +kernel
theorem dX4_goOn_4 : decode cX4_goOn 4 = .ok (.dup, 1) := by decide +kernel
theorem dX4_goOn_5 : decode cX4_goOn 5 = .ok (.getfield 111, 3) := by decide +kernel
theorem dX4_goOn_8 : decode cX4_goOn 8 = .ok (.iload_n 1, 1) := by decide +kernel
theorem dX4_goOn_9 : decode cX4_goOn 9 = .ok (.isub, 1) := by decide +kernel
theorem dX4_goOn_10 : decode cX4_goOn 10 = .ok (.putfield 111, 3) := by decide +kernel
theorem dX4_goOn_13 : decode cX4_goOn 13 = .ok (.aload_n 0, 1) := by decide +kernel
theorem dX4_goOn_14 : decode cX4_goOn 14 = .ok (.getfield 12, 3) := by decide +kernel
theorem dX4_goOn_17 : decode cX4_goOn 17 = .ok (.aload_n 0, 1) := by decide +kernel
theorem dX4_goOn_18 : decode cX4_goOn 18 = .ok (.getfield 28, 3) := by decide +kernel
theorem dX4_goOn_21 : decode cX4_goOn 21 = .ok (.getfield 180, 3) := by decide +kernel
theorem dX4_goOn_24 : decode cX4_goOn 24 = .ok (.invokevirtual 198, 3) := by decide +kernel
theorem dX4_goOn_27 : decode cX4_goOn 27 = .ok (.iconst 1, 1) := by decide +kernel
theorem dX4_goOn_28 : decode cX4_goOn 28 = .ok (.if_icmp .ne 41, 3) := by decide +kernel
theorem dX4_goOn_31 : decode cX4_goOn 31 = .ok (.aload_n 0, 1) := by decide +kernel
theorem dX4_goOn_32 : decode cX4_goOn 32 = .ok (.getfield 28, 3) := by decide +kernel
theorem dX4_goOn_35 : decode cX4_goOn 35 = .ok (.invokevirtual 205, 3) := by decide +kernel
theorem dX4_goOn_38 : decode cX4_goOn 38 = .ok (.ifCond .eq 31, 3) := by decide +kernel
theorem dX4_goOn_41 : decode cX4_goOn 41 = .ok (.aload_n 0, 1) := by decide +kernel
theorem dX4_goOn_42 : decode cX4_goOn 42 = .ok (.getfield 12, 3) := by decide +kernel
theorem dX4_goOn_45 : decode cX4_goOn 45 = .ok (.aload_n 0, 1) := by decide +kernel
theorem dX4_goOn_46 : decode cX4_goOn 46 = .ok (.getfield 28, 3) := by decide +kernel
theorem dX4_goOn_49 : decode cX4_goOn 49 = .ok (.getfield 180, 3) := by decide +kernel
theorem dX4_goOn_52 : decode cX4_goOn 52 = .ok (.iconst 2, 1) := by decide +kernel
theorem dX4_goOn_53 : decode cX4_goOn 53 = .ok (.invokevirtual 208, 3) := by decide +kernel
theorem dX4_goOn_56 : decode cX4_goOn 56 = .ok (.aload_n 0, 1) := by decide +kernel
theorem dX4_goOn_57 : decode cX4_goOn 57 = .ok (.getfield 35, 3) := by decide +kernel
theorem dX4_goOn_60 : decode cX4_goOn 60 = .ok (.dup, 1) := by decide +kernel
theorem dX4_goOn_61 : decode cX4_goOn 61 = .ok (.getfield 211, 3) := by decide +kernel
theorem dX4_goOn_64 : decode cX4_goOn 64 = .ok (.iconst 1, 1) := by decide +kernel
theorem dX4_goOn_65 : decode cX4_goOn 65 = .ok (.iadd, 1) := by decide +kernel
theorem dX4_goOn_66 : decode cX4_goOn 66 = .ok (.putfield 211, 3) := by decide +kernel
theorem dX4_goOn_69 : decode cX4_goOn 69 = .ok (.aload_n 0, 1) := by decide +kernel
theorem dX4_goOn_70 : decode cX4_goOn 70 = .ok (.getfield 28, 3) := by decide +kernel
theorem dX4_goOn_73 : decode cX4_goOn 73 = .ok (.getfield 111, 3) := by decide +kernel
theorem dX4_goOn_76 : decode cX4_goOn 76 = .ok (.ifCond .gt 7, 3) := by decide +kernel
theorem dX4_goOn_79 : decode cX4_goOn 79 = .ok (.aload_n 0, 1) := by decide +kernel
theorem dX4_goOn_80 : decode cX4_goOn 80 = .ok (.invokevirtual 214, 3) := by decide +kernel
theorem dX4_goOn_83 : decode cX4_goOn 83 = .ok (.return_, 1) := by decide +kernel
theorem dX4_finishWriting_0 : decode cX4_finishWriting 0 = .ok (.aload_n 0, 1) := by decide +kernel
theorem dX4_finishWriting_1 : decode cX4_finishWriting 1 = .ok (.getfield 28, 3) := by decide +kernel
theorem dX4_finishWriting_4 : decode cX4_finishWriting 4 = .ok (.iconst 0, 1) := by decide +kernel
theorem dX4_finishWriting_5 : decode cX4_finishWriting 5 = .ok (.putfield 105, 3) := by decide +kernel
theorem dX4_finishWriting_8 : decode cX4_finishWriting 8 = .ok (.aload_n 0, 1) := by decide +kernel
theorem dX4_finishWriting_9 : decode cX4_finishWriting 9 = .ok (.getfield 12, 3) := by decide +kernel
theorem dX4_finishWriting_12 : decode cX4_finishWriting 12 = .ok (.aload_n 0, 1) := by decide +kernel
theorem dX4_finishWriting_13 : decode cX4_finishWriting 13 = .ok (.getfield 28, 3) := by decide +kernel
theorem dX4_finishWriting_16 : decode cX4_finishWriting 16 = .ok (.getfield 171, 3) := by decide +kernel
theorem dX4_finishWriting_19 : decode cX4_finishWriting 19 = .ok (.iconst 2, 1) := by decide +kernel
theorem dX4_finishWriting_20 : decode cX4_finishWriting 20 = .ok (.invokevirtual 208, 3) := by decide +kernel
theorem dX4_finishWriting_23 : decode cX4_finishWriting 23 = .ok (.aload_n 0, 1) := by decide +kernel
theorem dX4_finishWriting_24 : decode cX4_finishWriting 24 = .ok (.getfield 28, 3) := by decide +kernel
theorem dX4_finishWriting_27 : decode cX4_finishWriting 27 = .ok (.getfield 163, 3) := by decide +kernel
theorem dX4_finishWriting_30 : decode cX4_finishWriting 30 = .ok (.ifCond .eq 18, 3) := by decide +kernel
theorem dX4_finishWriting_33 : decode cX4_finishWriting 33 = .ok (.aload_n 0, 1) := by decide +kernel
theorem dX4_finishWriting_34 : decode cX4_finishWriting 34 = .ok (.getfield 12, 3) := by decide +kernel
theorem dX4_finishWriting_37 : decode cX4_finishWriting 37 = .ok (.aload_n 0, 1) := by decide +kernel
theorem dX4_finishWriting_38 : decode cX4_finishWriting 38 = .ok (.getfield 28, 3) := by decide +kernel
theorem dX4_finishWriting_41 : decode cX4_finishWriting 41 = .ok (.getfield 180, 3) := by decide +kernel
theorem dX4_finishWriting_44 : decode cX4_finishWriting 44 = .ok (.iconst 0, 1) := by decide +kernel
theorem dX4_finishWriting_45 : decode cX4_finishWriting 45 = .ok (.invokevirtual 208, 3) := by decide +kernel
theorem dX4_finishWriting_48 : decode cX4_finishWriting 48 = .ok (.aload_n 0, 1) := by decide +kernel
theorem dX4_finishWriting_49 : decode cX4_finishWriting 49 = .ok (.getfield 28, 3) := by decide +kernel
theorem dX4_finishWriting_52 : decode cX4_finishWriting 52 = .ok (.invokevirtual 217, 3) := by decide +kernel
theorem dX4_finishWriting_55 : decode cX4_finishWriting 55 = .ok (.ifCond .eq 16, 3) := by decide +kernel
theorem dX4_finishWriting_58 : decode cX4_finishWriting 58 = .ok (.aload_n 0, 1) := by decide +kernel
theorem dX4_finishWriting_59 : decode cX4_finishWriting 59 = .ok (.getfield 35, 3) := by decide +kernel
theorem dX4_finishWriting_62 : decode cX4_finishWriting 62 = .ok (.dup, 1) := by decide +kernel
theorem dX4_finishWriting_63 : decode cX4_finishWriting 63 = .ok (.getfield 98, 3) := by decide +kernel
theorem dX4_finishWriting_66 : decode cX4_finishWriting 66 = .ok (.iconst 1, 1) := by decide +kernel
theorem dX4_finishWriting_67 : decode cX4_finishWriting 67 = .ok (.iadd, 1) := by decide +kernel
theorem dX4_finishWriting_68 : decode cX4_finishWriting 68 = .ok (.putfield 98, 3) := by decide +kernel
theorem dX4_finishWriting_71 : decode cX4_finishWriting 71 = .ok (.return_, 1) := by decide +kernel
theorem dX4_cutPower_0 : decode cX4_cutPower 0 = .ok (.aload_n 0, 1) := by decide +kernel
theorem dX4_cutPower_1 : decode cX4_cutPower 1 = .ok (.getfield 52, 3) := by decide +kernel
theorem dX4_cutPower_4 : decode cX4_cutPower 4 = .ok (.ifCond .eq 13, 3) := by decide +kernel
theorem dX4_cutPower_7 : decode cX4_cutPower 7 = .ok (.aload_n 0, 1) := by decide +kernel
theorem dX4_cutPower_8 : decode cX4_cutPower 8 = .ok (.invokevirtual 220, 3) := by decide +kernel
theorem dX4_cutPower_11 : decode cX4_cutPower 11 = .ok (.invokestatic 223, 3) := by decide +kernel
theorem dX4_cutPower_14 : decode cX4_cutPower 14 = .ok (.goto 5, 3) := by decide +kernel
theorem dX4_cutPower_17 : decode cX4_cutPower 17 = .ok (.bipush (-2), 2) := by decide +kernel
theorem dX4_cutPower_19 : decode cX4_cutPower 19 = .ok (.ireturn, 1) := by decide +kernel
theorem dX4_loseByCut_0 : decode cX4_loseByCut 0 = .ok (.iconst 0, 1) := by decide +kernel
theorem dX4_loseByCut_1 : decode cX4_loseByCut 1 = .ok (.istore_n 1, 1) := by decide +kernel
theorem dX4_loseByCut_2 : decode cX4_loseByCut 2 = .ok (.iload_n 1, 1) := by decide +kernel
theorem dX4_loseByCut_3 : decode cX4_loseByCut 3 = .ok (.aload_n 0, 1) := by decide +kernel
theorem dX4_loseByCut_4 : decode cX4_loseByCut 4 = .ok (.getfield 49, 3) := by decide +kernel
theorem dX4_loseByCut_7 : decode cX4_loseByCut 7 = .ok (.arraylength, 1) := by decide +kernel
theorem dX4_loseByCut_8 : decode cX4_loseByCut 8 = .ok (.if_icmp .ge 23, 3) := by decide +kernel
theorem dX4_loseByCut_11 : decode cX4_loseByCut 11 = .ok (.aload_n 0, 1) := by decide +kernel
theorem dX4_loseByCut_12 : decode cX4_loseByCut 12 = .ok (.getfield 49, 3) := by decide +kernel
theorem dX4_loseByCut_15 : decode cX4_loseByCut 15 = .ok (.iload_n 1, 1) := by decide +kernel
theorem dX4_loseByCut_16 : decode cX4_loseByCut 16 = .ok (.aload_n 0, 1) := by decide +kernel
theorem dX4_loseByCut_17 : decode cX4_loseByCut 17 = .ok (.getfield 12, 3) := by decide +kernel
theorem dX4_loseByCut_20 : decode cX4_loseByCut 20 = .ok (.iload_n 1, 1) := by decide +kernel
theorem dX4_loseByCut_21 : decode cX4_loseByCut 21 = .ok (.invokevirtual 228, 3) := by decide +kernel
theorem dX4_loseByCut_24 : decode cX4_loseByCut 24 = .ok (.iastore, 1) := by decide +kernel
theorem dX4_loseByCut_25 : decode cX4_loseByCut 25 = .ok (.iinc 1 1, 3) := by decide +kernel
theorem dX4_loseByCut_28 : decode cX4_loseByCut 28 = .ok (.goto (-26), 3) := by decide +kernel
theorem dX4_loseByCut_31 : decode cX4_loseByCut 31 = .ok (.aload_n 0, 1) := by decide +kernel
theorem dX4_loseByCut_32 : decode cX4_loseByCut 32 = .ok (.iconst 0, 1) := by decide +kernel
theorem dX4_loseByCut_33 : decode cX4_loseByCut 33 = .ok (.putfield 52, 3) := by decide +kernel
theorem dX4_loseByCut_36 : decode cX4_loseByCut 36 = .ok (.aload_n 0, 1) := by decide +kernel
theorem dX4_loseByCut_37 : decode cX4_loseByCut 37 = .ok (.getfield 35, 3) := by decide +kernel
theorem dX4_loseByCut_40 : decode cX4_loseByCut 40 = .ok (.dup, 1) := by decide +kernel
theorem dX4_loseByCut_41 : decode cX4_loseByCut 41 = .ok (.getfield 231, 3) := by decide +kernel
theorem dX4_loseByCut_44 : decode cX4_loseByCut 44 = .ok (.iconst 1, 1) := by decide +kernel
theorem dX4_loseByCut_45 : decode cX4_loseByCut 45 = .ok (.iadd, 1) := by decide +kernel
theorem dX4_loseByCut_46 : decode cX4_loseByCut 46 = .ok (.putfield 231, 3) := by decide +kernel
theorem dX4_loseByCut_49 : decode cX4_loseByCut 49 = .ok (.aload_n 0, 1) := by decide +kernel
theorem dX4_loseByCut_50 : decode cX4_loseByCut 50 = .ok (.getfield 35, 3) := by decide +kernel
theorem dX4_loseByCut_53 : decode cX4_loseByCut 53 = .ok (.dup, 1) := by decide +kernel
theorem dX4_loseByCut_54 : decode cX4_loseByCut 54 = .ok (.getfield 234, 3) := by decide +kernel
theorem dX4_loseByCut_57 : decode cX4_loseByCut 57 = .ok (.aload_n 0, 1) := by decide +kernel
theorem dX4_loseByCut_58 : decode cX4_loseByCut 58 = .ok (.getfield 21, 3) := by decide +kernel
theorem dX4_loseByCut_61 : decode cX4_loseByCut 61 = .ok (.invokevirtual 87, 3) := by decide +kernel
theorem dX4_loseByCut_64 : decode cX4_loseByCut 64 = .ok (.aload_n 0, 1) := by decide +kernel
theorem dX4_loseByCut_65 : decode cX4_loseByCut 65 = .ok (.getfield 28, 3) := by decide +kernel
theorem dX4_loseByCut_68 : decode cX4_loseByCut 68 = .ok (.getfield 105, 3) := by decide +kernel
theorem dX4_loseByCut_71 : decode cX4_loseByCut 71 = .ok (.ifCond .eq 7, 3) := by decide +kernel
theorem dX4_loseByCut_74 : decode cX4_loseByCut 74 = .ok (.iconst 1, 1) := by decide +kernel
theorem dX4_loseByCut_75 : decode cX4_loseByCut 75 = .ok (.goto 4, 3) := by decide +kernel
theorem dX4_loseByCut_78 : decode cX4_loseByCut 78 = .ok (.iconst 0, 1) := by decide +kernel
theorem dX4_loseByCut_79 : decode cX4_loseByCut 79 = .ok (.iadd, 1) := by decide +kernel
theorem dX4_loseByCut_80 : decode cX4_loseByCut 80 = .ok (.iadd, 1) := by decide +kernel
theorem dX4_loseByCut_81 : decode cX4_loseByCut 81 = .ok (.putfield 234, 3) := by decide +kernel
theorem dX4_loseByCut_84 : decode cX4_loseByCut 84 = .ok (.aload_n 0, 1) := by decide +kernel
theorem dX4_loseByCut_85 : decode cX4_loseByCut 85 = .ok (.getfield 21, 3) := by decide +kernel
theorem dX4_loseByCut_88 : decode cX4_loseByCut 88 = .ok (.invokevirtual 237, 3) := by decide +kernel
theorem dX4_loseByCut_91 : decode cX4_loseByCut 91 = .ok (.aload_n 0, 1) := by decide +kernel
theorem dX4_loseByCut_92 : decode cX4_loseByCut 92 = .ok (.getfield 28, 3) := by decide +kernel
theorem dX4_loseByCut_95 : decode cX4_loseByCut 95 = .ok (.getfield 105, 3) := by decide +kernel
theorem dX4_loseByCut_98 : decode cX4_loseByCut 98 = .ok (.ifCond .eq 7, 3) := by decide +kernel
theorem dX4_loseByCut_101 : decode cX4_loseByCut 101 = .ok (.aload_n 0, 1) := by decide +kernel
theorem dX4_loseByCut_102 : decode cX4_loseByCut 102 = .ok (.invokevirtual 240, 3) := by decide +kernel
theorem dX4_loseByCut_105 : decode cX4_loseByCut 105 = .ok (.iconst 0, 1) := by decide +kernel
theorem dX4_loseByCut_106 : decode cX4_loseByCut 106 = .ok (.istore_n 1, 1) := by decide +kernel
theorem dX4_loseByCut_107 : decode cX4_loseByCut 107 = .ok (.iconst 0, 1) := by decide +kernel
theorem dX4_loseByCut_108 : decode cX4_loseByCut 108 = .ok (.istore_n 2, 1) := by decide +kernel
theorem dX4_loseByCut_109 : decode cX4_loseByCut 109 = .ok (.iload_n 2, 1) := by decide +kernel
theorem dX4_loseByCut_110 : decode cX4_loseByCut 110 = .ok (.aload_n 0, 1) := by decide +kernel
theorem dX4_loseByCut_111 : decode cX4_loseByCut 111 = .ok (.getfield 49, 3) := by decide +kernel
theorem dX4_loseByCut_114 : decode cX4_loseByCut 114 = .ok (.arraylength, 1) := by decide +kernel
theorem dX4_loseByCut_115 : decode cX4_loseByCut 115 = .ok (.if_icmp .ge 41, 3) := by decide +kernel
theorem dX4_loseByCut_118 : decode cX4_loseByCut 118 = .ok (.aload_n 0, 1) := by decide +kernel
theorem dX4_loseByCut_119 : decode cX4_loseByCut 119 = .ok (.getfield 49, 3) := by decide +kernel
theorem dX4_loseByCut_122 : decode cX4_loseByCut 122 = .ok (.iload_n 2, 1) := by decide +kernel
theorem dX4_loseByCut_123 : decode cX4_loseByCut 123 = .ok (.iaload, 1) := by decide +kernel
theorem dX4_loseByCut_124 : decode cX4_loseByCut 124 = .ok (.ifCond .le 26, 3) := by decide +kernel
theorem dX4_loseByCut_127 : decode cX4_loseByCut 127 = .ok (.aload_n 0, 1) := by decide +kernel
theorem dX4_loseByCut_128 : decode cX4_loseByCut 128 = .ok (.getfield 12, 3) := by decide +kernel
theorem dX4_loseByCut_131 : decode cX4_loseByCut 131 = .ok (.iload_n 2, 1) := by decide +kernel
theorem dX4_loseByCut_132 : decode cX4_loseByCut 132 = .ok (.invokevirtual 228, 3) := by decide +kernel
theorem dX4_loseByCut_135 : decode cX4_loseByCut 135 = .ok (.aload_n 0, 1) := by decide +kernel
theorem dX4_loseByCut_136 : decode cX4_loseByCut 136 = .ok (.getfield 49, 3) := by decide +kernel
theorem dX4_loseByCut_139 : decode cX4_loseByCut 139 = .ok (.iload_n 2, 1) := by decide +kernel
theorem dX4_loseByCut_140 : decode cX4_loseByCut 140 = .ok (.iaload, 1) := by decide +kernel
theorem dX4_loseByCut_141 : decode cX4_loseByCut 141 = .ok (.if_icmp .eq 9, 3) := by decide +kernel
theorem dX4_loseByCut_144 : decode cX4_loseByCut 144 = .ok (.iload_n 1, 1) := by decide +kernel
theorem dX4_loseByCut_145 : decode cX4_loseByCut 145 = .ok (.iconst 1, 1) := by decide +kernel
theorem dX4_loseByCut_146 : decode cX4_loseByCut 146 = .ok (.iload_n 2, 1) := by decide +kernel
theorem dX4_loseByCut_147 : decode cX4_loseByCut 147 = .ok (.ishl, 1) := by decide +kernel
theorem dX4_loseByCut_148 : decode cX4_loseByCut 148 = .ok (.ior, 1) := by decide +kernel
theorem dX4_loseByCut_149 : decode cX4_loseByCut 149 = .ok (.istore_n 1, 1) := by decide +kernel
theorem dX4_loseByCut_150 : decode cX4_loseByCut 150 = .ok (.iinc 2 1, 3) := by decide +kernel
theorem dX4_loseByCut_153 : decode cX4_loseByCut 153 = .ok (.goto (-44), 3) := by decide +kernel
theorem dX4_loseByCut_156 : decode cX4_loseByCut 156 = .ok (.aload_n 0, 1) := by decide +kernel
theorem dX4_loseByCut_157 : decode cX4_loseByCut 157 = .ok (.getfield 35, 3) := by decide +kernel
theorem dX4_loseByCut_160 : decode cX4_loseByCut 160 = .ok (.dup, 1) := by decide +kernel
theorem dX4_loseByCut_161 : decode cX4_loseByCut 161 = .ok (.getfield 243, 3) := by decide +kernel
theorem dX4_loseByCut_164 : decode cX4_loseByCut 164 = .ok (.iload_n 1, 1) := by decide +kernel
theorem dX4_loseByCut_165 : decode cX4_loseByCut 165 = .ok (.invokestatic 223, 3) := by decide +kernel
theorem dX4_loseByCut_168 : decode cX4_loseByCut 168 = .ok (.iadd, 1) := by decide +kernel
theorem dX4_loseByCut_169 : decode cX4_loseByCut 169 = .ok (.putfield 243, 3) := by decide +kernel
theorem dX4_loseByCut_172 : decode cX4_loseByCut 172 = .ok (.iload_n 1, 1) := by decide +kernel
theorem dX4_loseByCut_173 : decode cX4_loseByCut 173 = .ok (.ireturn, 1) := by decide +kernel
theorem dX4_tearWriting_0 : decode cX4_tearWriting 0 = .ok (.aload_n 0, 1) := by decide +kernel
theorem dX4_tearWriting_1 : decode cX4_tearWriting 1 = .ok (.getfield 28, 3) := by decide +kernel
theorem dX4_tearWriting_4 : decode cX4_tearWriting 4 = .ok (.iconst 0, 1) := by decide +kernel
theorem dX4_tearWriting_5 : decode cX4_tearWriting 5 = .ok (.putfield 105, 3) := by decide +kernel
theorem dX4_tearWriting_8 : decode cX4_tearWriting 8 = .ok (.aload_n 0, 1) := by decide +kernel
theorem dX4_tearWriting_9 : decode cX4_tearWriting 9 = .ok (.getfield 12, 3) := by decide +kernel
theorem dX4_tearWriting_12 : decode cX4_tearWriting 12 = .ok (.aload_n 0, 1) := by decide +kernel
theorem dX4_tearWriting_13 : decode cX4_tearWriting 13 = .ok (.getfield 28, 3) := by decide +kernel
theorem dX4_tearWriting_16 : decode cX4_tearWriting 16 = .ok (.getfield 171, 3) := by decide +kernel
theorem dX4_tearWriting_19 : decode cX4_tearWriting 19 = .ok (.iconst 3, 1) := by decide +kernel
theorem dX4_tearWriting_20 : decode cX4_tearWriting 20 = .ok (.invokevirtual 208, 3) := by decide +kernel
theorem dX4_tearWriting_23 : decode cX4_tearWriting 23 = .ok (.aload_n 0, 1) := by decide +kernel
theorem dX4_tearWriting_24 : decode cX4_tearWriting 24 = .ok (.getfield 28, 3) := by decide +kernel
theorem dX4_tearWriting_27 : decode cX4_tearWriting 27 = .ok (.getfield 163, 3) := by decide +kernel
theorem dX4_tearWriting_30 : decode cX4_tearWriting 30 = .ok (.ifCond .eq 28, 3) := by decide +kernel
theorem dX4_tearWriting_33 : decode cX4_tearWriting 33 = .ok (.aload_n 0, 1) := by decide +kernel
theorem dX4_tearWriting_34 : decode cX4_tearWriting 34 = .ok (.getfield 28, 3) := by decide +kernel
theorem dX4_tearWriting_37 : decode cX4_tearWriting 37 = .ok (.invokevirtual 246, 3) := by decide +kernel
theorem dX4_tearWriting_40 : decode cX4_tearWriting 40 = .ok (.ifCond .eq 18, 3) := by decide +kernel
theorem dX4_tearWriting_43 : decode cX4_tearWriting 43 = .ok (.aload_n 0, 1) := by decide +kernel
theorem dX4_tearWriting_44 : decode cX4_tearWriting 44 = .ok (.getfield 12, 3) := by decide +kernel
theorem dX4_tearWriting_47 : decode cX4_tearWriting 47 = .ok (.aload_n 0, 1) := by decide +kernel
theorem dX4_tearWriting_48 : decode cX4_tearWriting 48 = .ok (.getfield 28, 3) := by decide +kernel
theorem dX4_tearWriting_51 : decode cX4_tearWriting 51 = .ok (.getfield 177, 3) := by decide +kernel
theorem dX4_tearWriting_54 : decode cX4_tearWriting 54 = .ok (.iconst 3, 1) := by decide +kernel
theorem dX4_tearWriting_55 : decode cX4_tearWriting 55 = .ok (.invokevirtual 208, 3) := by decide +kernel
theorem dX4_tearWriting_58 : decode cX4_tearWriting 58 = .ok (.aload_n 0, 1) := by decide +kernel
theorem dX4_tearWriting_59 : decode cX4_tearWriting 59 = .ok (.getfield 12, 3) := by decide +kernel
theorem dX4_tearWriting_62 : decode cX4_tearWriting 62 = .ok (.aload_n 0, 1) := by decide +kernel
theorem dX4_tearWriting_63 : decode cX4_tearWriting 63 = .ok (.getfield 28, 3) := by decide +kernel
theorem dX4_tearWriting_66 : decode cX4_tearWriting 66 = .ok (.getfield 180, 3) := by decide +kernel
theorem dX4_tearWriting_69 : decode cX4_tearWriting 69 = .ok (.invokevirtual 198, 3) := by decide +kernel
theorem dX4_tearWriting_72 : decode cX4_tearWriting 72 = .ok (.iconst 1, 1) := by decide +kernel
theorem dX4_tearWriting_73 : decode cX4_tearWriting 73 = .ok (.if_icmp .ne 18, 3) := by decide +kernel
theorem dX4_tearWriting_76 : decode cX4_tearWriting 76 = .ok (.aload_n 0, 1) := by decide +kernel
theorem dX4_tearWriting_77 : decode cX4_tearWriting 77 = .ok (.getfield 12, 3) := by decide +kernel
theorem dX4_tearWriting_80 : decode cX4_tearWriting 80 = .ok (.aload_n 0, 1) := by decide +kernel
theorem dX4_tearWriting_81 : decode cX4_tearWriting 81 = .ok (.getfield 28, 3) := by decide +kernel
theorem dX4_tearWriting_84 : decode cX4_tearWriting 84 = .ok (.getfield 180, 3) := by decide +kernel
theorem dX4_tearWriting_87 : decode cX4_tearWriting 87 = .ok (.iconst 0, 1) := by decide +kernel
theorem dX4_tearWriting_88 : decode cX4_tearWriting 88 = .ok (.invokevirtual 208, 3) := by decide +kernel
theorem dX4_tearWriting_91 : decode cX4_tearWriting 91 = .ok (.return_, 1) := by decide +kernel
theorem dX4_restorePower_0 : decode cX4_restorePower 0 = .ok (.aload_n 0, 1) := by decide +kernel
theorem dX4_restorePower_1 : decode cX4_restorePower 1 = .ok (.getfield 52, 3) := by decide +kernel
theorem dX4_restorePower_4 : decode cX4_restorePower 4 = .ok (.ifCond .eq 6, 3) := by decide +kernel
theorem dX4_restorePower_7 : decode cX4_restorePower 7 = .ok (.bipush (-2), 2) := by decide +kernel
theorem dX4_restorePower_9 : decode cX4_restorePower 9 = .ok (.ireturn, 1) := by decide +kernel
theorem dX4_restorePower_10 : decode cX4_restorePower 10 = .ok (.aload_n 0, 1) := by decide +kernel
theorem dX4_restorePower_11 : decode cX4_restorePower 11 = .ok (.iconst 1, 1) := by decide +kernel
theorem dX4_restorePower_12 : decode cX4_restorePower 12 = .ok (.putfield 52, 3) := by decide +kernel
theorem dX4_restorePower_15 : decode cX4_restorePower 15 = .ok (.iconst 0, 1) := by decide +kernel
theorem dX4_restorePower_16 : decode cX4_restorePower 16 = .ok (.istore_n 1, 1) := by decide +kernel
theorem dX4_restorePower_17 : decode cX4_restorePower 17 = .ok (.iload_n 1, 1) := by decide +kernel
theorem dX4_restorePower_18 : decode cX4_restorePower 18 = .ok (.iconst 2, 1) := by decide +kernel
theorem dX4_restorePower_19 : decode cX4_restorePower 19 = .ok (.if_icmp .ge 34, 3) := by decide +kernel
theorem dX4_restorePower_22 : decode cX4_restorePower 22 = .ok (.bipush 16, 2) := by decide +kernel
theorem dX4_restorePower_24 : decode cX4_restorePower 24 = .ok (.istore_n 2, 1) := by decide +kernel
theorem dX4_restorePower_25 : decode cX4_restorePower 25 = .ok (.iload_n 2, 1) := by decide +kernel
theorem dX4_restorePower_26 : decode cX4_restorePower 26 = .ok (.bipush 24, 2) := by decide +kernel
theorem dX4_restorePower_28 : decode cX4_restorePower 28 = .ok (.if_icmp .ge 19, 3) := by decide +kernel
theorem dX4_restorePower_31 : decode cX4_restorePower 31 = .ok (.aload_n 0, 1) := by decide +kernel
theorem dX4_restorePower_32 : decode cX4_restorePower 32 = .ok (.iload_n 1, 1) := by decide +kernel
theorem dX4_restorePower_33 : decode cX4_restorePower 33 = .ok (.iload_n 2, 1) := by decide +kernel
theorem dX4_restorePower_34 : decode cX4_restorePower 34 = .ok (.invokestatic 168, 3) := by decide +kernel
theorem dX4_restorePower_37 : decode cX4_restorePower 37 = .ok (.iconst 0, 1) := by decide +kernel
theorem dX4_restorePower_38 : decode cX4_restorePower 38 = .ok (.invokevirtual 249, 3) := by decide +kernel
theorem dX4_restorePower_41 : decode cX4_restorePower 41 = .ok (.iinc 2 1, 3) := by decide +kernel
theorem dX4_restorePower_44 : decode cX4_restorePower 44 = .ok (.goto (-19), 3) := by decide +kernel
theorem dX4_restorePower_47 : decode cX4_restorePower 47 = .ok (.iinc 1 1, 3) := by decide +kernel
theorem dX4_restorePower_50 : decode cX4_restorePower 50 = .ok (.goto (-33), 3) := by decide +kernel
theorem dX4_restorePower_53 : decode cX4_restorePower 53 = .ok (.aload_n 0, 1) := by decide +kernel
theorem dX4_restorePower_54 : decode cX4_restorePower 54 = .ok (.getfield 21, 3) := by decide +kernel
theorem dX4_restorePower_57 : decode cX4_restorePower 57 = .ok (.invokevirtual 87, 3) := by decide +kernel
theorem dX4_restorePower_60 : decode cX4_restorePower 60 = .ok (.ireturn, 1) := by decide +kernel
theorem dX4_askForCopy_0 : decode cX4_askForCopy 0 = .ok (.aload_n 0, 1) := by decide +kernel
theorem dX4_askForCopy_1 : decode cX4_askForCopy 1 = .ok (.getfield 12, 3) := by decide +kernel
theorem dX4_askForCopy_4 : decode cX4_askForCopy 4 = .ok (.iload_n 1, 1) := by decide +kernel
theorem dX4_askForCopy_5 : decode cX4_askForCopy 5 = .ok (.invokevirtual 252, 3) := by decide +kernel
theorem dX4_askForCopy_8 : decode cX4_askForCopy 8 = .ok (.ifCond .eq 35, 3) := by decide +kernel
theorem dX4_askForCopy_11 : decode cX4_askForCopy 11 = .ok (.aload_n 0, 1) := by decide +kernel
theorem dX4_askForCopy_12 : decode cX4_askForCopy 12 = .ok (.getfield 21, 3) := by decide +kernel
theorem dX4_askForCopy_15 : decode cX4_askForCopy 15 = .ok (.aload_n 0, 1) := by decide +kernel
theorem dX4_askForCopy_16 : decode cX4_askForCopy 16 = .ok (.getfield 12, 3) := by decide +kernel
theorem dX4_askForCopy_19 : decode cX4_askForCopy 19 = .ok (.iload_n 1, 1) := by decide +kernel
theorem dX4_askForCopy_20 : decode cX4_askForCopy 20 = .ok (.invokevirtual 256, 3) := by decide +kernel
theorem dX4_askForCopy_23 : decode cX4_askForCopy 23 = .ok (.aload_n 0, 1) := by decide +kernel
theorem dX4_askForCopy_24 : decode cX4_askForCopy 24 = .ok (.getfield 12, 3) := by decide +kernel
theorem dX4_askForCopy_27 : decode cX4_askForCopy 27 = .ok (.iload_n 1, 1) := by decide +kernel
theorem dX4_askForCopy_28 : decode cX4_askForCopy 28 = .ok (.invokevirtual 257, 3) := by decide +kernel
theorem dX4_askForCopy_31 : decode cX4_askForCopy 31 = .ok (.iload_n 2, 1) := by decide +kernel
theorem dX4_askForCopy_32 : decode cX4_askForCopy 32 = .ok (.aload_n 0, 1) := by decide +kernel
theorem dX4_askForCopy_33 : decode cX4_askForCopy 33 = .ok (.getfield 12, 3) := by decide +kernel
theorem dX4_askForCopy_36 : decode cX4_askForCopy 36 = .ok (.iload_n 1, 1) := by decide +kernel
theorem dX4_askForCopy_37 : decode cX4_askForCopy 37 = .ok (.invokevirtual 149, 3) := by decide +kernel
theorem dX4_askForCopy_40 : decode cX4_askForCopy 40 = .ok (.invokevirtual 91, 3) := by decide +kernel
theorem dX4_askForCopy_43 : decode cX4_askForCopy 43 = .ok (.return_, 1) := by decide +kernel
theorem dX4_turnToOther_0 : decode cX4_turnToOther 0 = .ok (.iconst 1, 1) := by decide +kernel
theorem dX4_turnToOther_1 : decode cX4_turnToOther 1 = .ok (.aload_n 0, 1) := by decide +kernel
theorem dX4_turnToOther_2 : decode cX4_turnToOther 2 = .ok (.getfield 76, 3) := by decide +kernel
theorem dX4_turnToOther_5 : decode cX4_turnToOther 5 = .ok (.isub, 1) := by decide +kernel
theorem dX4_turnToOther_6 : decode cX4_turnToOther 6 = .ok (.istore_n 1, 1) := by decide +kernel
theorem dX4_turnToOther_7 : decode cX4_turnToOther 7 = .ok (.aload_n 0, 1) := by decide +kernel
theorem dX4_turnToOther_8 : decode cX4_turnToOther 8 = .ok (.getfield 52, 3) := by decide +kernel
theorem dX4_turnToOther_11 : decode cX4_turnToOther 11 = .ok (.ifCond .eq 24, 3) := by decide +kernel
theorem dX4_turnToOther_14 : decode cX4_turnToOther 14 = .ok (.aload_n 0, 1) := by decide +kernel
theorem dX4_turnToOther_15 : decode cX4_turnToOther 15 = .ok (.getfield 28, 3) := by decide +kernel
theorem dX4_turnToOther_18 : decode cX4_turnToOther 18 = .ok (.getfield 105, 3) := by decide +kernel
theorem dX4_turnToOther_21 : decode cX4_turnToOther 21 = .ok (.ifCond .ne 14, 3) := by decide +kernel
theorem dX4_turnToOther_24 : decode cX4_turnToOther 24 = .ok (.aload_n 0, 1) := by decide +kernel
theorem dX4_turnToOther_25 : decode cX4_turnToOther 25 = .ok (.getfield 12, 3) := by decide +kernel
theorem dX4_turnToOther_28 : decode cX4_turnToOther 28 = .ok (.iload_n 1, 1) := by decide +kernel
theorem dX4_turnToOther_29 : decode cX4_turnToOther 29 = .ok (.invokevirtual 258, 3) := by decide +kernel
theorem dX4_turnToOther_32 : decode cX4_turnToOther 32 = .ok (.ifCond .ne 6, 3) := by decide +kernel
theorem dX4_turnToOther_35 : decode cX4_turnToOther 35 = .ok (.bipush (-2), 2) := by decide +kernel
theorem dX4_turnToOther_37 : decode cX4_turnToOther 37 = .ok (.ireturn, 1) := by decide +kernel
theorem dX4_turnToOther_38 : decode cX4_turnToOther 38 = .ok (.aload_n 0, 1) := by decide +kernel
theorem dX4_turnToOther_39 : decode cX4_turnToOther 39 = .ok (.iload_n 1, 1) := by decide +kernel
theorem dX4_turnToOther_40 : decode cX4_turnToOther 40 = .ok (.putfield 76, 3) := by decide +kernel
theorem dX4_turnToOther_43 : decode cX4_turnToOther 43 = .ok (.aload_n 0, 1) := by decide +kernel
theorem dX4_turnToOther_44 : decode cX4_turnToOther 44 = .ok (.iconst 0, 1) := by decide +kernel
theorem dX4_turnToOther_45 : decode cX4_turnToOther 45 = .ok (.putfield 80, 3) := by decide +kernel
theorem dX4_turnToOther_48 : decode cX4_turnToOther 48 = .ok (.iload_n 1, 1) := by decide +kernel
theorem dX4_turnToOther_49 : decode cX4_turnToOther 49 = .ok (.ireturn, 1) := by decide +kernel
theorem dX4_cleanBlock_0 : decode cX4_cleanBlock 0 = .ok (.iload_n 1, 1) := by decide +kernel
theorem dX4_cleanBlock_1 : decode cX4_cleanBlock 1 = .ok (.iconst 0, 1) := by decide +kernel
theorem dX4_cleanBlock_2 : decode cX4_cleanBlock 2 = .ok (.iconst 1, 1) := by decide +kernel
theorem dX4_cleanBlock_3 : decode cX4_cleanBlock 3 = .ok (.invokestatic 83, 3) := by decide +kernel
theorem dX4_cleanBlock_6 : decode cX4_cleanBlock 6 = .ok (.ifCond .ne 5, 3) := by decide +kernel
theorem dX4_cleanBlock_9 : decode cX4_cleanBlock 9 = .ok (.iconst (-1), 1) := by decide +kernel
theorem dX4_cleanBlock_10 : decode cX4_cleanBlock 10 = .ok (.ireturn, 1) := by decide +kernel
theorem dX4_cleanBlock_11 : decode cX4_cleanBlock 11 = .ok (.aload_n 0, 1) := by decide +kernel
theorem dX4_cleanBlock_12 : decode cX4_cleanBlock 12 = .ok (.getfield 52, 3) := by decide +kernel
theorem dX4_cleanBlock_15 : decode cX4_cleanBlock 15 = .ok (.ifCond .eq 11, 3) := by decide +kernel
theorem dX4_cleanBlock_18 : decode cX4_cleanBlock 18 = .ok (.iload_n 1, 1) := by decide +kernel
theorem dX4_cleanBlock_19 : decode cX4_cleanBlock 19 = .ok (.aload_n 0, 1) := by decide +kernel
theorem dX4_cleanBlock_20 : decode cX4_cleanBlock 20 = .ok (.getfield 76, 3) := by decide +kernel
theorem dX4_cleanBlock_23 : decode cX4_cleanBlock 23 = .ok (.if_icmp .ne 6, 3) := by decide +kernel
theorem dX4_cleanBlock_26 : decode cX4_cleanBlock 26 = .ok (.bipush (-2), 2) := by decide +kernel
theorem dX4_cleanBlock_28 : decode cX4_cleanBlock 28 = .ok (.ireturn, 1) := by decide +kernel
theorem dX4_cleanBlock_29 : decode cX4_cleanBlock 29 = .ok (.aload_n 0, 1) := by decide +kernel
theorem dX4_cleanBlock_30 : decode cX4_cleanBlock 30 = .ok (.getfield 12, 3) := by decide +kernel
theorem dX4_cleanBlock_33 : decode cX4_cleanBlock 33 = .ok (.iload_n 1, 1) := by decide +kernel
theorem dX4_cleanBlock_34 : decode cX4_cleanBlock 34 = .ok (.invokevirtual 261, 3) := by decide +kernel
theorem dX4_cleanBlock_37 : decode cX4_cleanBlock 37 = .ok (.istore_n 2, 1) := by decide +kernel
theorem dX4_cleanBlock_38 : decode cX4_cleanBlock 38 = .ok (.aload_n 0, 1) := by decide +kernel
theorem dX4_cleanBlock_39 : decode cX4_cleanBlock 39 = .ok (.getfield 21, 3) := by decide +kernel
theorem dX4_cleanBlock_42 : decode cX4_cleanBlock 42 = .ok (.invokevirtual 87, 3) := by decide +kernel
theorem dX4_cleanBlock_45 : decode cX4_cleanBlock 45 = .ok (.iload_n 2, 1) := by decide +kernel
theorem dX4_cleanBlock_46 : decode cX4_cleanBlock 46 = .ok (.iadd, 1) := by decide +kernel
theorem dX4_cleanBlock_47 : decode cX4_cleanBlock 47 = .ok (.bipush 8, 2) := by decide +kernel
theorem dX4_cleanBlock_49 : decode cX4_cleanBlock 49 = .ok (.if_icmp .le 6, 3) := by decide +kernel
theorem dX4_cleanBlock_52 : decode cX4_cleanBlock 52 = .ok (.bipush (-3), 2) := by decide +kernel
theorem dX4_cleanBlock_54 : decode cX4_cleanBlock 54 = .ok (.ireturn, 1) := by decide +kernel
theorem dX4_cleanBlock_55 : decode cX4_cleanBlock 55 = .ok (.iconst 0, 1) := by decide +kernel
theorem dX4_cleanBlock_56 : decode cX4_cleanBlock 56 = .ok (.istore_n 3, 1) := by decide +kernel
theorem dX4_cleanBlock_57 : decode cX4_cleanBlock 57 = .ok (.iload_n 3, 1) := by decide +kernel
theorem dX4_cleanBlock_58 : decode cX4_cleanBlock 58 = .ok (.bipush 24, 2) := by decide +kernel
theorem dX4_cleanBlock_60 : decode cX4_cleanBlock 60 = .ok (.if_icmp .ge 19, 3) := by decide +kernel
theorem dX4_cleanBlock_63 : decode cX4_cleanBlock 63 = .ok (.aload_n 0, 1) := by decide +kernel
theorem dX4_cleanBlock_64 : decode cX4_cleanBlock 64 = .ok (.iload_n 1, 1) := by decide +kernel
theorem dX4_cleanBlock_65 : decode cX4_cleanBlock 65 = .ok (.iload_n 3, 1) := by decide +kernel
theorem dX4_cleanBlock_66 : decode cX4_cleanBlock 66 = .ok (.invokestatic 168, 3) := by decide +kernel
theorem dX4_cleanBlock_69 : decode cX4_cleanBlock 69 = .ok (.iconst 3, 1) := by decide +kernel
theorem dX4_cleanBlock_70 : decode cX4_cleanBlock 70 = .ok (.invokevirtual 249, 3) := by decide +kernel
theorem dX4_cleanBlock_73 : decode cX4_cleanBlock 73 = .ok (.iinc 3 1, 3) := by decide +kernel
theorem dX4_cleanBlock_76 : decode cX4_cleanBlock 76 = .ok (.goto (-19), 3) := by decide +kernel
theorem dX4_cleanBlock_79 : decode cX4_cleanBlock 79 = .ok (.iload_n 2, 1) := by decide +kernel
theorem dX4_cleanBlock_80 : decode cX4_cleanBlock 80 = .ok (.ireturn, 1) := by decide +kernel
theorem dX4_eraseBlock_0 : decode cX4_eraseBlock 0 = .ok (.iload_n 1, 1) := by decide +kernel
theorem dX4_eraseBlock_1 : decode cX4_eraseBlock 1 = .ok (.iconst 0, 1) := by decide +kernel
theorem dX4_eraseBlock_2 : decode cX4_eraseBlock 2 = .ok (.iconst 1, 1) := by decide +kernel
theorem dX4_eraseBlock_3 : decode cX4_eraseBlock 3 = .ok (.invokestatic 83, 3) := by decide +kernel
theorem dX4_eraseBlock_6 : decode cX4_eraseBlock 6 = .ok (.ifCond .ne 5, 3) := by decide +kernel
theorem dX4_eraseBlock_9 : decode cX4_eraseBlock 9 = .ok (.iconst (-1), 1) := by decide +kernel
theorem dX4_eraseBlock_10 : decode cX4_eraseBlock 10 = .ok (.ireturn, 1) := by decide +kernel
theorem dX4_eraseBlock_11 : decode cX4_eraseBlock 11 = .ok (.aload_n 0, 1) := by decide +kernel
theorem dX4_eraseBlock_12 : decode cX4_eraseBlock 12 = .ok (.getfield 52, 3) := by decide +kernel
theorem dX4_eraseBlock_15 : decode cX4_eraseBlock 15 = .ok (.ifCond .eq 22, 3) := by decide +kernel
theorem dX4_eraseBlock_18 : decode cX4_eraseBlock 18 = .ok (.iload_n 1, 1) := by decide +kernel
theorem dX4_eraseBlock_19 : decode cX4_eraseBlock 19 = .ok (.aload_n 0, 1) := by decide +kernel
theorem dX4_eraseBlock_20 : decode cX4_eraseBlock 20 = .ok (.getfield 76, 3) := by decide +kernel
theorem dX4_eraseBlock_23 : decode cX4_eraseBlock 23 = .ok (.if_icmp .eq 14, 3) := by decide +kernel
theorem dX4_eraseBlock_26 : decode cX4_eraseBlock 26 = .ok (.aload_n 0, 1) := by decide +kernel
theorem dX4_eraseBlock_27 : decode cX4_eraseBlock 27 = .ok (.getfield 12, 3) := by decide +kernel
theorem dX4_eraseBlock_30 : decode cX4_eraseBlock 30 = .ok (.iload_n 1, 1) := by decide +kernel
theorem dX4_eraseBlock_31 : decode cX4_eraseBlock 31 = .ok (.invokevirtual 261, 3) := by decide +kernel
theorem dX4_eraseBlock_34 : decode cX4_eraseBlock 34 = .ok (.ifCond .le 6, 3) := by decide +kernel
theorem dX4_eraseBlock_37 : decode cX4_eraseBlock 37 = .ok (.bipush (-2), 2) := by decide +kernel
theorem dX4_eraseBlock_39 : decode cX4_eraseBlock 39 = .ok (.ireturn, 1) := by decide +kernel
theorem dX4_eraseBlock_40 : decode cX4_eraseBlock 40 = .ok (.aload_n 0, 1) := by decide +kernel
theorem dX4_eraseBlock_41 : decode cX4_eraseBlock 41 = .ok (.getfield 12, 3) := by decide +kernel
theorem dX4_eraseBlock_44 : decode cX4_eraseBlock 44 = .ok (.iload_n 1, 1) := by decide +kernel
theorem dX4_eraseBlock_45 : decode cX4_eraseBlock 45 = .ok (.invokevirtual 264, 3) := by decide +kernel
theorem dX4_eraseBlock_48 : decode cX4_eraseBlock 48 = .ok (.aload_n 0, 1) := by decide +kernel
theorem dX4_eraseBlock_49 : decode cX4_eraseBlock 49 = .ok (.getfield 46, 3) := by decide +kernel
theorem dX4_eraseBlock_52 : decode cX4_eraseBlock 52 = .ok (.iload_n 1, 1) := by decide +kernel
theorem dX4_eraseBlock_53 : decode cX4_eraseBlock 53 = .ok (.invokestatic 156, 3) := by decide +kernel
theorem dX4_eraseBlock_56 : decode cX4_eraseBlock 56 = .ok (.iconst 1, 1) := by decide +kernel
theorem dX4_eraseBlock_57 : decode cX4_eraseBlock 57 = .ok (.iadd, 1) := by decide +kernel
theorem dX4_eraseBlock_58 : decode cX4_eraseBlock 58 = .ok (.istore_n 2, 1) := by decide +kernel
theorem dX4_eraseBlock_59 : decode cX4_eraseBlock 59 = .ok (.aload_n 0, 1) := by decide +kernel
theorem dX4_eraseBlock_60 : decode cX4_eraseBlock 60 = .ok (.getfield 46, 3) := by decide +kernel
theorem dX4_eraseBlock_63 : decode cX4_eraseBlock 63 = .ok (.iload_n 1, 1) := by decide +kernel
theorem dX4_eraseBlock_64 : decode cX4_eraseBlock 64 = .ok (.iload_n 2, 1) := by decide +kernel
theorem dX4_eraseBlock_65 : decode cX4_eraseBlock 65 = .ok (.invokestatic 267, 3) := by decide +kernel
theorem dX4_eraseBlock_68 : decode cX4_eraseBlock 68 = .ok (.iload_n 2, 1) := by decide +kernel
theorem dX4_eraseBlock_69 : decode cX4_eraseBlock 69 = .ok (.ireturn, 1) := by decide +kernel
theorem dX4_changeSlowness_0 : decode cX4_changeSlowness 0 = .ok (.iload_n 1, 1) := by decide +kernel
theorem dX4_changeSlowness_1 : decode cX4_changeSlowness 1 = .ok (.iconst 0, 1) := by decide +kernel
theorem dX4_changeSlowness_2 : decode cX4_changeSlowness 2 = .ok (.bipush 7, 2) := by decide +kernel
theorem dX4_changeSlowness_4 : decode cX4_changeSlowness 4 = .ok (.invokestatic 83, 3) := by decide +kernel
theorem dX4_changeSlowness_7 : decode cX4_changeSlowness 7 = .ok (.ifCond .eq 12, 3) := by decide +kernel
theorem dX4_changeSlowness_10 : decode cX4_changeSlowness 10 = .ok (.iload_n 2, 1) := by decide +kernel
theorem dX4_changeSlowness_11 : decode cX4_changeSlowness 11 = .ok (.iconst 0, 1) := by decide +kernel
theorem dX4_changeSlowness_12 : decode cX4_changeSlowness 12 = .ok (.iconst 5, 1) := by decide +kernel
theorem dX4_changeSlowness_13 : decode cX4_changeSlowness 13 = .ok (.invokestatic 83, 3) := by decide +kernel
theorem dX4_changeSlowness_16 : decode cX4_changeSlowness 16 = .ok (.ifCond .ne 5, 3) := by decide +kernel
theorem dX4_changeSlowness_19 : decode cX4_changeSlowness 19 = .ok (.iconst (-1), 1) := by decide +kernel
theorem dX4_changeSlowness_20 : decode cX4_changeSlowness 20 = .ok (.ireturn, 1) := by decide +kernel
theorem dX4_changeSlowness_21 : decode cX4_changeSlowness 21 = .ok (.aload_n 0, 1) := by decide +kernel
theorem dX4_changeSlowness_22 : decode cX4_changeSlowness 22 = .ok (.getfield 43, 3) := by decide +kernel
theorem dX4_changeSlowness_25 : decode cX4_changeSlowness 25 = .ok (.iload_n 1, 1) := by decide +kernel
theorem dX4_changeSlowness_26 : decode cX4_changeSlowness 26 = .ok (.invokestatic 156, 3) := by decide +kernel
theorem dX4_changeSlowness_29 : decode cX4_changeSlowness 29 = .ok (.istore_n 3, 1) := by decide +kernel
theorem dX4_changeSlowness_30 : decode cX4_changeSlowness 30 = .ok (.aload_n 0, 1) := by decide +kernel
theorem dX4_changeSlowness_31 : decode cX4_changeSlowness 31 = .ok (.getfield 43, 3) := by decide +kernel
theorem dX4_changeSlowness_34 : decode cX4_changeSlowness 34 = .ok (.iload_n 1, 1) := by decide +kernel
theorem dX4_changeSlowness_35 : decode cX4_changeSlowness 35 = .ok (.iload_n 2, 1) := by decide +kernel
theorem dX4_changeSlowness_36 : decode cX4_changeSlowness 36 = .ok (.invokestatic 267, 3) := by decide +kernel
theorem dX4_changeSlowness_39 : decode cX4_changeSlowness 39 = .ok (.iload_n 3, 1) := by decide +kernel
theorem dX4_changeSlowness_40 : decode cX4_changeSlowness 40 = .ok (.ireturn, 1) := by decide +kernel
theorem dX4_changeSetting_0 : decode cX4_changeSetting 0 = .ok (.iload_n 1, 1) := by decide +kernel
theorem dX4_changeSetting_1 : decode cX4_changeSetting 1 = .ok (.iconst 0, 1) := by decide +kernel
theorem dX4_changeSetting_2 : decode cX4_changeSetting 2 = .ok (.iconst 3, 1) := by decide +kernel
theorem dX4_changeSetting_3 : decode cX4_changeSetting 3 = .ok (.invokestatic 83, 3) := by decide +kernel
theorem dX4_changeSetting_6 : decode cX4_changeSetting 6 = .ok (.ifCond .eq 24, 3) := by decide +kernel
theorem dX4_changeSetting_9 : decode cX4_changeSetting 9 = .ok (.iload_n 2, 1) := by decide +kernel
theorem dX4_changeSetting_10 : decode cX4_changeSetting 10 = .ok (.getstatic 271, 3) := by decide +kernel
theorem dX4_changeSetting_13 : decode cX4_changeSetting 13 = .ok (.iload_n 1, 1) := by decide +kernel
theorem dX4_changeSetting_14 : decode cX4_changeSetting 14 = .ok (.invokestatic 156, 3) := by decide +kernel
theorem dX4_changeSetting_17 : decode cX4_changeSetting 17 = .ok (.getstatic 274, 3) := by decide +kernel
theorem dX4_changeSetting_20 : decode cX4_changeSetting 20 = .ok (.iload_n 1, 1) := by decide +kernel
theorem dX4_changeSetting_21 : decode cX4_changeSetting 21 = .ok (.invokestatic 156, 3) := by decide +kernel
theorem dX4_changeSetting_24 : decode cX4_changeSetting 24 = .ok (.invokestatic 83, 3) := by decide +kernel
theorem dX4_changeSetting_27 : decode cX4_changeSetting 27 = .ok (.ifCond .ne 5, 3) := by decide +kernel
theorem dX4_changeSetting_30 : decode cX4_changeSetting 30 = .ok (.iconst (-1), 1) := by decide +kernel
theorem dX4_changeSetting_31 : decode cX4_changeSetting 31 = .ok (.ireturn, 1) := by decide +kernel
theorem dX4_changeSetting_32 : decode cX4_changeSetting 32 = .ok (.aload_n 0, 1) := by decide +kernel
theorem dX4_changeSetting_33 : decode cX4_changeSetting 33 = .ok (.getfield 39, 3) := by decide +kernel
theorem dX4_changeSetting_36 : decode cX4_changeSetting 36 = .ok (.iload_n 1, 1) := by decide +kernel
theorem dX4_changeSetting_37 : decode cX4_changeSetting 37 = .ok (.invokestatic 156, 3) := by decide +kernel
theorem dX4_changeSetting_40 : decode cX4_changeSetting 40 = .ok (.istore_n 3, 1) := by decide +kernel
theorem dX4_changeSetting_41 : decode cX4_changeSetting 41 = .ok (.aload_n 0, 1) := by decide +kernel
theorem dX4_changeSetting_42 : decode cX4_changeSetting 42 = .ok (.getfield 39, 3) := by decide +kernel
theorem dX4_changeSetting_45 : decode cX4_changeSetting 45 = .ok (.iload_n 1, 1) := by decide +kernel
theorem dX4_changeSetting_46 : decode cX4_changeSetting 46 = .ok (.iload_n 2, 1) := by decide +kernel
theorem dX4_changeSetting_47 : decode cX4_changeSetting 47 = .ok (.invokestatic 267, 3) := by decide +kernel
theorem dX4_changeSetting_50 : decode cX4_changeSetting 50 = .ok (.iload_n 3, 1) := by decide +kernel
theorem dX4_changeSetting_51 : decode cX4_changeSetting 51 = .ok (.ireturn, 1) := by decide +kernel
theorem dX4_placeFact_0 : decode cX4_placeFact 0 = .ok (.iload_n 1, 1) := by decide +kernel
theorem dX4_placeFact_1 : decode cX4_placeFact 1 = .ok (.iconst 0, 1) := by decide +kernel
theorem dX4_placeFact_2 : decode cX4_placeFact 2 = .ok (.bipush 11, 2) := by decide +kernel
theorem dX4_placeFact_4 : decode cX4_placeFact 4 = .ok (.invokestatic 83, 3) := by decide +kernel
theorem dX4_placeFact_7 : decode cX4_placeFact 7 = .ok (.ifCond .eq 12, 3) := by decide +kernel
theorem dX4_placeFact_10 : decode cX4_placeFact 10 = .ok (.iload_n 2, 1) := by decide +kernel
theorem dX4_placeFact_11 : decode cX4_placeFact 11 = .ok (.iconst 0, 1) := by decide +kernel
theorem dX4_placeFact_12 : decode cX4_placeFact 12 = .ok (.iconst 2, 1) := by decide +kernel
theorem dX4_placeFact_13 : decode cX4_placeFact 13 = .ok (.invokestatic 83, 3) := by decide +kernel
theorem dX4_placeFact_16 : decode cX4_placeFact 16 = .ok (.ifCond .ne 5, 3) := by decide +kernel
theorem dX4_placeFact_19 : decode cX4_placeFact 19 = .ok (.iconst (-1), 1) := by decide +kernel
theorem dX4_placeFact_20 : decode cX4_placeFact 20 = .ok (.ireturn, 1) := by decide +kernel
theorem dX4_placeFact_21 : decode cX4_placeFact 21 = .ok (.aload_n 0, 1) := by decide +kernel
theorem dX4_placeFact_22 : decode cX4_placeFact 22 = .ok (.getfield 12, 3) := by decide +kernel
theorem dX4_placeFact_25 : decode cX4_placeFact 25 = .ok (.iload_n 1, 1) := by decide +kernel
theorem dX4_placeFact_26 : decode cX4_placeFact 26 = .ok (.invokevirtual 146, 3) := by decide +kernel
theorem dX4_placeFact_29 : decode cX4_placeFact 29 = .ok (.istore_n 3, 1) := by decide +kernel
theorem dX4_placeFact_30 : decode cX4_placeFact 30 = .ok (.iload_n 3, 1) := by decide +kernel
theorem dX4_placeFact_31 : decode cX4_placeFact 31 = .ok (.iconst (-1), 1) := by decide +kernel
theorem dX4_placeFact_32 : decode cX4_placeFact 32 = .ok (.if_icmp .ne 6, 3) := by decide +kernel
theorem dX4_placeFact_35 : decode cX4_placeFact 35 = .ok (.bipush (-4), 2) := by decide +kernel
theorem dX4_placeFact_37 : decode cX4_placeFact 37 = .ok (.ireturn, 1) := by decide +kernel
theorem dX4_placeFact_38 : decode cX4_placeFact 38 = .ok (.iload_n 2, 1) := by decide +kernel
theorem dX4_placeFact_39 : decode cX4_placeFact 39 = .ok (.ifCond .ne 8, 3) := by decide +kernel
theorem dX4_placeFact_42 : decode cX4_placeFact 42 = .ok (.iload_n 3, 1) := by decide +kernel
theorem dX4_placeFact_43 : decode cX4_placeFact 43 = .ok (.bipush 24, 2) := by decide +kernel
theorem dX4_placeFact_45 : decode cX4_placeFact 45 = .ok (.idiv, 1) := by decide +kernel
theorem dX4_placeFact_46 : decode cX4_placeFact 46 = .ok (.ireturn, 1) := by decide +kernel
theorem dX4_placeFact_47 : decode cX4_placeFact 47 = .ok (.iload_n 2, 1) := by decide +kernel
theorem dX4_placeFact_48 : decode cX4_placeFact 48 = .ok (.iconst 1, 1) := by decide +kernel
theorem dX4_placeFact_49 : decode cX4_placeFact 49 = .ok (.if_icmp .ne 10, 3) := by decide +kernel
theorem dX4_placeFact_52 : decode cX4_placeFact 52 = .ok (.iload_n 3, 1) := by decide +kernel
theorem dX4_placeFact_53 : decode cX4_placeFact 53 = .ok (.bipush 24, 2) := by decide +kernel
theorem dX4_placeFact_55 : decode cX4_placeFact 55 = .ok (.irem, 1) := by decide +kernel
theorem dX4_placeFact_56 : decode cX4_placeFact 56 = .ok (.goto 11, 3) := by decide +kernel
theorem dX4_placeFact_59 : decode cX4_placeFact 59 = .ok (.aload_n 0, 1) := by decide +kernel
theorem dX4_placeFact_60 : decode cX4_placeFact 60 = .ok (.getfield 12, 3) := by decide +kernel
theorem dX4_placeFact_63 : decode cX4_placeFact 63 = .ok (.iload_n 3, 1) := by decide +kernel
theorem dX4_placeFact_64 : decode cX4_placeFact 64 = .ok (.invokevirtual 149, 3) := by decide +kernel
theorem dX4_placeFact_67 : decode cX4_placeFact 67 = .ok (.ireturn, 1) := by decide +kernel
theorem dX4_pageFact_0 : decode cX4_pageFact 0 = .ok (.iload_n 1, 1) := by decide +kernel
theorem dX4_pageFact_1 : decode cX4_pageFact 1 = .ok (.iconst 0, 1) := by decide +kernel
theorem dX4_pageFact_2 : decode cX4_pageFact 2 = .ok (.iconst 1, 1) := by decide +kernel
theorem dX4_pageFact_3 : decode cX4_pageFact 3 = .ok (.invokestatic 83, 3) := by decide +kernel
theorem dX4_pageFact_6 : decode cX4_pageFact 6 = .ok (.ifCond .eq 22, 3) := by decide +kernel
theorem dX4_pageFact_9 : decode cX4_pageFact 9 = .ok (.iload_n 2, 1) := by decide +kernel
theorem dX4_pageFact_10 : decode cX4_pageFact 10 = .ok (.iconst 0, 1) := by decide +kernel
theorem dX4_pageFact_11 : decode cX4_pageFact 11 = .ok (.bipush 15, 2) := by decide +kernel
theorem dX4_pageFact_13 : decode cX4_pageFact 13 = .ok (.invokestatic 83, 3) := by decide +kernel
theorem dX4_pageFact_16 : decode cX4_pageFact 16 = .ok (.ifCond .eq 12, 3) := by decide +kernel
theorem dX4_pageFact_19 : decode cX4_pageFact 19 = .ok (.iload_n 3, 1) := by decide +kernel
theorem dX4_pageFact_20 : decode cX4_pageFact 20 = .ok (.iconst 0, 1) := by decide +kernel
theorem dX4_pageFact_21 : decode cX4_pageFact 21 = .ok (.iconst 5, 1) := by decide +kernel
theorem dX4_pageFact_22 : decode cX4_pageFact 22 = .ok (.invokestatic 83, 3) := by decide +kernel
theorem dX4_pageFact_25 : decode cX4_pageFact 25 = .ok (.ifCond .ne 5, 3) := by decide +kernel
theorem dX4_pageFact_28 : decode cX4_pageFact 28 = .ok (.iconst (-1), 1) := by decide +kernel
theorem dX4_pageFact_29 : decode cX4_pageFact 29 = .ok (.ireturn, 1) := by decide +kernel
theorem dX4_pageFact_30 : decode cX4_pageFact 30 = .ok (.iload_n 1, 1) := by decide +kernel
theorem dX4_pageFact_31 : decode cX4_pageFact 31 = .ok (.iload_n 2, 1) := by decide +kernel
theorem dX4_pageFact_32 : decode cX4_pageFact 32 = .ok (.invokestatic 168, 3) := by decide +kernel
theorem dX4_pageFact_35 : decode cX4_pageFact 35 = .ok (.istore 4, 2) := by decide +kernel
theorem dX4_pageFact_37 : decode cX4_pageFact 37 = .ok (.iload_n 3, 1) := by decide +kernel
theorem dX4_pageFact_38 : decode cX4_pageFact 38 = .ok (.ifCond .ne 13, 3) := by decide +kernel
theorem dX4_pageFact_41 : decode cX4_pageFact 41 = .ok (.aload_n 0, 1) := by decide +kernel
theorem dX4_pageFact_42 : decode cX4_pageFact 42 = .ok (.getfield 12, 3) := by decide +kernel
theorem dX4_pageFact_45 : decode cX4_pageFact 45 = .ok (.iload 4, 2) := by decide +kernel
theorem dX4_pageFact_47 : decode cX4_pageFact 47 = .ok (.invokevirtual 198, 3) := by decide +kernel
theorem dX4_pageFact_50 : decode cX4_pageFact 50 = .ok (.ireturn, 1) := by decide +kernel
theorem dX4_pageFact_51 : decode cX4_pageFact 51 = .ok (.iload_n 3, 1) := by decide +kernel
theorem dX4_pageFact_52 : decode cX4_pageFact 52 = .ok (.iconst 4, 1) := by decide +kernel
theorem dX4_pageFact_53 : decode cX4_pageFact 53 = .ok (.if_icmp .ne 11, 3) := by decide +kernel
theorem dX4_pageFact_56 : decode cX4_pageFact 56 = .ok (.getstatic 153, 3) := by decide +kernel
theorem dX4_pageFact_59 : decode cX4_pageFact 59 = .ok (.iload_n 2, 1) := by decide +kernel
theorem dX4_pageFact_60 : decode cX4_pageFact 60 = .ok (.invokestatic 156, 3) := by decide +kernel
theorem dX4_pageFact_63 : decode cX4_pageFact 63 = .ok (.ireturn, 1) := by decide +kernel
theorem dX4_pageFact_64 : decode cX4_pageFact 64 = .ok (.iload_n 3, 1) := by decide +kernel
theorem dX4_pageFact_65 : decode cX4_pageFact 65 = .ok (.iconst 5, 1) := by decide +kernel
theorem dX4_pageFact_66 : decode cX4_pageFact 66 = .ok (.if_icmp .ne 11, 3) := by decide +kernel
theorem dX4_pageFact_69 : decode cX4_pageFact 69 = .ok (.getstatic 160, 3) := by decide +kernel
theorem dX4_pageFact_72 : decode cX4_pageFact 72 = .ok (.iload_n 2, 1) := by decide +kernel
theorem dX4_pageFact_73 : decode cX4_pageFact 73 = .ok (.invokestatic 156, 3) := by decide +kernel
theorem dX4_pageFact_76 : decode cX4_pageFact 76 = .ok (.ireturn, 1) := by decide +kernel
theorem dX4_pageFact_77 : decode cX4_pageFact 77 = .ok (.aload_n 0, 1) := by decide +kernel
theorem dX4_pageFact_78 : decode cX4_pageFact 78 = .ok (.getfield 12, 3) := by decide +kernel
theorem dX4_pageFact_81 : decode cX4_pageFact 81 = .ok (.iload 4, 2) := by decide +kernel
theorem dX4_pageFact_83 : decode cX4_pageFact 83 = .ok (.invokevirtual 198, 3) := by decide +kernel
theorem dX4_pageFact_86 : decode cX4_pageFact 86 = .ok (.iconst 2, 1) := by decide +kernel
theorem dX4_pageFact_87 : decode cX4_pageFact 87 = .ok (.if_icmp .ne 16, 3) := by decide +kernel
theorem dX4_pageFact_90 : decode cX4_pageFact 90 = .ok (.aload_n 0, 1) := by decide +kernel
theorem dX4_pageFact_91 : decode cX4_pageFact 91 = .ok (.getfield 12, 3) := by decide +kernel
theorem dX4_pageFact_94 : decode cX4_pageFact 94 = .ok (.iload 4, 2) := by decide +kernel
theorem dX4_pageFact_96 : decode cX4_pageFact 96 = .ok (.iload_n 3, 1) := by decide +kernel
theorem dX4_pageFact_97 : decode cX4_pageFact 97 = .ok (.invokevirtual 277, 3) := by decide +kernel
theorem dX4_pageFact_100 : decode cX4_pageFact 100 = .ok (.goto 5, 3) := by decide +kernel
theorem dX4_pageFact_103 : decode cX4_pageFact 103 = .ok (.bipush (-4), 2) := by decide +kernel
theorem dX4_pageFact_105 : decode cX4_pageFact 105 = .ok (.ireturn, 1) := by decide +kernel
theorem dX4_backupFact_0 : decode cX4_backupFact 0 = .ok (.iload_n 1, 1) := by decide +kernel
theorem dX4_backupFact_1 : decode cX4_backupFact 1 = .ok (.iconst 0, 1) := by decide +kernel
theorem dX4_backupFact_2 : decode cX4_backupFact 2 = .ok (.iconst 1, 1) := by decide +kernel
theorem dX4_backupFact_3 : decode cX4_backupFact 3 = .ok (.invokestatic 83, 3) := by decide +kernel
theorem dX4_backupFact_6 : decode cX4_backupFact 6 = .ok (.ifCond .eq 22, 3) := by decide +kernel
theorem dX4_backupFact_9 : decode cX4_backupFact 9 = .ok (.iload_n 2, 1) := by decide +kernel
theorem dX4_backupFact_10 : decode cX4_backupFact 10 = .ok (.iconst 0, 1) := by decide +kernel
theorem dX4_backupFact_11 : decode cX4_backupFact 11 = .ok (.bipush 7, 2) := by decide +kernel
theorem dX4_backupFact_13 : decode cX4_backupFact 13 = .ok (.invokestatic 83, 3) := by decide +kernel
theorem dX4_backupFact_16 : decode cX4_backupFact 16 = .ok (.ifCond .eq 12, 3) := by decide +kernel
theorem dX4_backupFact_19 : decode cX4_backupFact 19 = .ok (.iload_n 3, 1) := by decide +kernel
theorem dX4_backupFact_20 : decode cX4_backupFact 20 = .ok (.iconst 0, 1) := by decide +kernel
theorem dX4_backupFact_21 : decode cX4_backupFact 21 = .ok (.iconst 3, 1) := by decide +kernel
theorem dX4_backupFact_22 : decode cX4_backupFact 22 = .ok (.invokestatic 83, 3) := by decide +kernel
theorem dX4_backupFact_25 : decode cX4_backupFact 25 = .ok (.ifCond .ne 5, 3) := by decide +kernel
theorem dX4_backupFact_28 : decode cX4_backupFact 28 = .ok (.iconst (-1), 1) := by decide +kernel
theorem dX4_backupFact_29 : decode cX4_backupFact 29 = .ok (.ireturn, 1) := by decide +kernel
theorem dX4_backupFact_30 : decode cX4_backupFact 30 = .ok (.iload_n 1, 1) := by decide +kernel
theorem dX4_backupFact_31 : decode cX4_backupFact 31 = .ok (.bipush 16, 2) := by decide +kernel
theorem dX4_backupFact_33 : decode cX4_backupFact 33 = .ok (.iload_n 2, 1) := by decide +kernel
theorem dX4_backupFact_34 : decode cX4_backupFact 34 = .ok (.iadd, 1) := by decide +kernel
theorem dX4_backupFact_35 : decode cX4_backupFact 35 = .ok (.invokestatic 168, 3) := by decide +kernel
theorem dX4_backupFact_38 : decode cX4_backupFact 38 = .ok (.istore 4, 2) := by decide +kernel
theorem dX4_backupFact_40 : decode cX4_backupFact 40 = .ok (.aload_n 0, 1) := by decide +kernel
theorem dX4_backupFact_41 : decode cX4_backupFact 41 = .ok (.getfield 12, 3) := by decide +kernel
theorem dX4_backupFact_44 : decode cX4_backupFact 44 = .ok (.iload 4, 2) := by decide +kernel
theorem dX4_backupFact_46 : decode cX4_backupFact 46 = .ok (.invokevirtual 198, 3) := by decide +kernel
theorem dX4_backupFact_49 : decode cX4_backupFact 49 = .ok (.ifCond .ne 6, 3) := by decide +kernel
theorem dX4_backupFact_52 : decode cX4_backupFact 52 = .ok (.bipush (-4), 2) := by decide +kernel
theorem dX4_backupFact_54 : decode cX4_backupFact 54 = .ok (.ireturn, 1) := by decide +kernel
theorem dX4_backupFact_55 : decode cX4_backupFact 55 = .ok (.iload_n 3, 1) := by decide +kernel
theorem dX4_backupFact_56 : decode cX4_backupFact 56 = .ok (.ifCond .ne 22, 3) := by decide +kernel
theorem dX4_backupFact_59 : decode cX4_backupFact 59 = .ok (.aload_n 0, 1) := by decide +kernel
theorem dX4_backupFact_60 : decode cX4_backupFact 60 = .ok (.getfield 12, 3) := by decide +kernel
theorem dX4_backupFact_63 : decode cX4_backupFact 63 = .ok (.iload 4, 2) := by decide +kernel
theorem dX4_backupFact_65 : decode cX4_backupFact 65 = .ok (.invokevirtual 198, 3) := by decide +kernel
theorem dX4_backupFact_68 : decode cX4_backupFact 68 = .ok (.iconst 2, 1) := by decide +kernel
theorem dX4_backupFact_69 : decode cX4_backupFact 69 = .ok (.if_icmp .ne 7, 3) := by decide +kernel
theorem dX4_backupFact_72 : decode cX4_backupFact 72 = .ok (.iconst 1, 1) := by decide +kernel
theorem dX4_backupFact_73 : decode cX4_backupFact 73 = .ok (.goto 4, 3) := by decide +kernel
theorem dX4_backupFact_76 : decode cX4_backupFact 76 = .ok (.iconst 0, 1) := by decide +kernel
theorem dX4_backupFact_77 : decode cX4_backupFact 77 = .ok (.ireturn, 1) := by decide +kernel
theorem dX4_backupFact_78 : decode cX4_backupFact 78 = .ok (.aload_n 0, 1) := by decide +kernel
theorem dX4_backupFact_79 : decode cX4_backupFact 79 = .ok (.getfield 12, 3) := by decide +kernel
theorem dX4_backupFact_82 : decode cX4_backupFact 82 = .ok (.iload 4, 2) := by decide +kernel
theorem dX4_backupFact_84 : decode cX4_backupFact 84 = .ok (.iload_n 3, 1) := by decide +kernel
theorem dX4_backupFact_85 : decode cX4_backupFact 85 = .ok (.invokevirtual 277, 3) := by decide +kernel
theorem dX4_backupFact_88 : decode cX4_backupFact 88 = .ok (.ireturn, 1) := by decide +kernel
theorem dX4_requestFact_0 : decode cX4_requestFact 0 = .ok (.iload_n 1, 1) := by decide +kernel
theorem dX4_requestFact_1 : decode cX4_requestFact 1 = .ok (.ifCond .lt 12, 3) := by decide +kernel
theorem dX4_requestFact_4 : decode cX4_requestFact 4 = .ok (.iload_n 2, 1) := by decide +kernel
theorem dX4_requestFact_5 : decode cX4_requestFact 5 = .ok (.iconst 0, 1) := by decide +kernel
theorem dX4_requestFact_6 : decode cX4_requestFact 6 = .ok (.iconst 2, 1) := by decide +kernel
theorem dX4_requestFact_7 : decode cX4_requestFact 7 = .ok (.invokestatic 83, 3) := by decide +kernel
theorem dX4_requestFact_10 : decode cX4_requestFact 10 = .ok (.ifCond .ne 5, 3) := by decide +kernel
theorem dX4_requestFact_13 : decode cX4_requestFact 13 = .ok (.iconst (-1), 1) := by decide +kernel
theorem dX4_requestFact_14 : decode cX4_requestFact 14 = .ok (.ireturn, 1) := by decide +kernel
theorem dX4_requestFact_15 : decode cX4_requestFact 15 = .ok (.iload_n 1, 1) := by decide +kernel
theorem dX4_requestFact_16 : decode cX4_requestFact 16 = .ok (.aload_n 0, 1) := by decide +kernel
theorem dX4_requestFact_17 : decode cX4_requestFact 17 = .ok (.getfield 21, 3) := by decide +kernel
theorem dX4_requestFact_20 : decode cX4_requestFact 20 = .ok (.invokevirtual 87, 3) := by decide +kernel
theorem dX4_requestFact_23 : decode cX4_requestFact 23 = .ok (.if_icmp .lt 6, 3) := by decide +kernel
theorem dX4_requestFact_26 : decode cX4_requestFact 26 = .ok (.bipush (-4), 2) := by decide +kernel
theorem dX4_requestFact_28 : decode cX4_requestFact 28 = .ok (.ireturn, 1) := by decide +kernel
theorem dX4_requestFact_29 : decode cX4_requestFact 29 = .ok (.iload_n 2, 1) := by decide +kernel
theorem dX4_requestFact_30 : decode cX4_requestFact 30 = .ok (.ifCond .ne 12, 3) := by decide +kernel
theorem dX4_requestFact_33 : decode cX4_requestFact 33 = .ok (.aload_n 0, 1) := by decide +kernel
theorem dX4_requestFact_34 : decode cX4_requestFact 34 = .ok (.getfield 21, 3) := by decide +kernel
theorem dX4_requestFact_37 : decode cX4_requestFact 37 = .ok (.iload_n 1, 1) := by decide +kernel
theorem dX4_requestFact_38 : decode cX4_requestFact 38 = .ok (.invokevirtual 143, 3) := by decide +kernel
theorem dX4_requestFact_41 : decode cX4_requestFact 41 = .ok (.ireturn, 1) := by decide +kernel
theorem dX4_requestFact_42 : decode cX4_requestFact 42 = .ok (.iload_n 2, 1) := by decide +kernel
theorem dX4_requestFact_43 : decode cX4_requestFact 43 = .ok (.iconst 1, 1) := by decide +kernel
theorem dX4_requestFact_44 : decode cX4_requestFact 44 = .ok (.if_icmp .ne 14, 3) := by decide +kernel
theorem dX4_requestFact_47 : decode cX4_requestFact 47 = .ok (.aload_n 0, 1) := by decide +kernel
theorem dX4_requestFact_48 : decode cX4_requestFact 48 = .ok (.getfield 21, 3) := by decide +kernel
theorem dX4_requestFact_51 : decode cX4_requestFact 51 = .ok (.iload_n 1, 1) := by decide +kernel
theorem dX4_requestFact_52 : decode cX4_requestFact 52 = .ok (.invokevirtual 192, 3) := by decide +kernel
theorem dX4_requestFact_55 : decode cX4_requestFact 55 = .ok (.goto 11, 3) := by decide +kernel
theorem dX4_requestFact_58 : decode cX4_requestFact 58 = .ok (.aload_n 0, 1) := by decide +kernel
theorem dX4_requestFact_59 : decode cX4_requestFact 59 = .ok (.getfield 21, 3) := by decide +kernel
theorem dX4_requestFact_62 : decode cX4_requestFact 62 = .ok (.iload_n 1, 1) := by decide +kernel
theorem dX4_requestFact_63 : decode cX4_requestFact 63 = .ok (.invokevirtual 139, 3) := by decide +kernel
theorem dX4_requestFact_66 : decode cX4_requestFact 66 = .ok (.ireturn, 1) := by decide +kernel
theorem dX4_numberOf_0 : decode cX4_numberOf 0 = .ok (.iload_n 1, 1) := by decide +kernel
theorem dX4_numberOf_1 : decode cX4_numberOf 1 = .ok (.tableswitch 231 0 15 #[79, 87, 100, 105, 110, 118, 134, 157, 165, 173, 181, 189, 197, 206, 215, 223], 79) := by decide +kernel
theorem dX4_numberOf_80 : decode cX4_numberOf 80 = .ok (.aload_n 0, 1) := by decide +kernel
theorem dX4_numberOf_81 : decode cX4_numberOf 81 = .ok (.getfield 35, 3) := by decide +kernel
theorem dX4_numberOf_84 : decode cX4_numberOf 84 = .ok (.getfield 95, 3) := by decide +kernel
theorem dX4_numberOf_87 : decode cX4_numberOf 87 = .ok (.ireturn, 1) := by decide +kernel
theorem dX4_numberOf_88 : decode cX4_numberOf 88 = .ok (.aload_n 0, 1) := by decide +kernel
theorem dX4_numberOf_89 : decode cX4_numberOf 89 = .ok (.getfield 52, 3) := by decide +kernel
theorem dX4_numberOf_92 : decode cX4_numberOf 92 = .ok (.ifCond .eq 7, 3) := by decide +kernel
theorem dX4_numberOf_95 : decode cX4_numberOf 95 = .ok (.iconst 1, 1) := by decide +kernel
theorem dX4_numberOf_96 : decode cX4_numberOf 96 = .ok (.goto 4, 3) := by decide +kernel
theorem dX4_numberOf_99 : decode cX4_numberOf 99 = .ok (.iconst 0, 1) := by decide +kernel
theorem dX4_numberOf_100 : decode cX4_numberOf 100 = .ok (.ireturn, 1) := by decide +kernel
theorem dX4_numberOf_101 : decode cX4_numberOf 101 = .ok (.aload_n 0, 1) := by decide +kernel
theorem dX4_numberOf_102 : decode cX4_numberOf 102 = .ok (.getfield 76, 3) := by decide +kernel
theorem dX4_numberOf_105 : decode cX4_numberOf 105 = .ok (.ireturn, 1) := by decide +kernel
theorem dX4_numberOf_106 : decode cX4_numberOf 106 = .ok (.aload_n 0, 1) := by decide +kernel
theorem dX4_numberOf_107 : decode cX4_numberOf 107 = .ok (.getfield 80, 3) := by decide +kernel
theorem dX4_numberOf_110 : decode cX4_numberOf 110 = .ok (.ireturn, 1) := by decide +kernel
theorem dX4_numberOf_111 : decode cX4_numberOf 111 = .ok (.aload_n 0, 1) := by decide +kernel
theorem dX4_numberOf_112 : decode cX4_numberOf 112 = .ok (.getfield 21, 3) := by decide +kernel
theorem dX4_numberOf_115 : decode cX4_numberOf 115 = .ok (.invokevirtual 87, 3) := by decide +kernel
theorem dX4_numberOf_118 : decode cX4_numberOf 118 = .ok (.ireturn, 1) := by decide +kernel
theorem dX4_numberOf_119 : decode cX4_numberOf 119 = .ok (.aload_n 0, 1) := by decide +kernel
theorem dX4_numberOf_120 : decode cX4_numberOf 120 = .ok (.getfield 28, 3) := by decide +kernel
theorem dX4_numberOf_123 : decode cX4_numberOf 123 = .ok (.getfield 105, 3) := by decide +kernel
theorem dX4_numberOf_126 : decode cX4_numberOf 126 = .ok (.ifCond .eq 7, 3) := by decide +kernel
theorem dX4_numberOf_129 : decode cX4_numberOf 129 = .ok (.iconst 1, 1) := by decide +kernel
theorem dX4_numberOf_130 : decode cX4_numberOf 130 = .ok (.goto 4, 3) := by decide +kernel
theorem dX4_numberOf_133 : decode cX4_numberOf 133 = .ok (.iconst 0, 1) := by decide +kernel
theorem dX4_numberOf_134 : decode cX4_numberOf 134 = .ok (.ireturn, 1) := by decide +kernel
theorem dX4_numberOf_135 : decode cX4_numberOf 135 = .ok (.aload_n 0, 1) := by decide +kernel
theorem dX4_numberOf_136 : decode cX4_numberOf 136 = .ok (.getfield 28, 3) := by decide +kernel
theorem dX4_numberOf_139 : decode cX4_numberOf 139 = .ok (.getfield 105, 3) := by decide +kernel
theorem dX4_numberOf_142 : decode cX4_numberOf 142 = .ok (.ifCond .eq 13, 3) := by decide +kernel
theorem dX4_numberOf_145 : decode cX4_numberOf 145 = .ok (.aload_n 0, 1) := by decide +kernel
theorem dX4_numberOf_146 : decode cX4_numberOf 146 = .ok (.getfield 28, 3) := by decide +kernel
theorem dX4_numberOf_149 : decode cX4_numberOf 149 = .ok (.getfield 111, 3) := by decide +kernel
theorem dX4_numberOf_152 : decode cX4_numberOf 152 = .ok (.goto 5, 3) := by decide +kernel
theorem dX4_numberOf_155 : decode cX4_numberOf 155 = .ok (.bipush (-4), 2) := by decide +kernel
theorem dX4_numberOf_157 : decode cX4_numberOf 157 = .ok (.ireturn, 1) := by decide +kernel
theorem dX4_numberOf_158 : decode cX4_numberOf 158 = .ok (.aload_n 0, 1) := by decide +kernel
theorem dX4_numberOf_159 : decode cX4_numberOf 159 = .ok (.getfield 35, 3) := by decide +kernel
theorem dX4_numberOf_162 : decode cX4_numberOf 162 = .ok (.getfield 98, 3) := by decide +kernel
theorem dX4_numberOf_165 : decode cX4_numberOf 165 = .ok (.ireturn, 1) := by decide +kernel
theorem dX4_numberOf_166 : decode cX4_numberOf 166 = .ok (.aload_n 0, 1) := by decide +kernel
theorem dX4_numberOf_167 : decode cX4_numberOf 167 = .ok (.getfield 35, 3) := by decide +kernel
theorem dX4_numberOf_170 : decode cX4_numberOf 170 = .ok (.getfield 234, 3) := by decide +kernel
theorem dX4_numberOf_173 : decode cX4_numberOf 173 = .ok (.ireturn, 1) := by decide +kernel
theorem dX4_numberOf_174 : decode cX4_numberOf 174 = .ok (.aload_n 0, 1) := by decide +kernel
theorem dX4_numberOf_175 : decode cX4_numberOf 175 = .ok (.getfield 35, 3) := by decide +kernel
theorem dX4_numberOf_178 : decode cX4_numberOf 178 = .ok (.getfield 243, 3) := by decide +kernel
theorem dX4_numberOf_181 : decode cX4_numberOf 181 = .ok (.ireturn, 1) := by decide +kernel
theorem dX4_numberOf_182 : decode cX4_numberOf 182 = .ok (.aload_n 0, 1) := by decide +kernel
theorem dX4_numberOf_183 : decode cX4_numberOf 183 = .ok (.getfield 12, 3) := by decide +kernel
theorem dX4_numberOf_186 : decode cX4_numberOf 186 = .ok (.invokevirtual 280, 3) := by decide +kernel
theorem dX4_numberOf_189 : decode cX4_numberOf 189 = .ok (.ireturn, 1) := by decide +kernel
theorem dX4_numberOf_190 : decode cX4_numberOf 190 = .ok (.aload_n 0, 1) := by decide +kernel
theorem dX4_numberOf_191 : decode cX4_numberOf 191 = .ok (.getfield 12, 3) := by decide +kernel
theorem dX4_numberOf_194 : decode cX4_numberOf 194 = .ok (.invokevirtual 283, 3) := by decide +kernel
theorem dX4_numberOf_197 : decode cX4_numberOf 197 = .ok (.ireturn, 1) := by decide +kernel
theorem dX4_numberOf_198 : decode cX4_numberOf 198 = .ok (.aload_n 0, 1) := by decide +kernel
theorem dX4_numberOf_199 : decode cX4_numberOf 199 = .ok (.getfield 46, 3) := by decide +kernel
theorem dX4_numberOf_202 : decode cX4_numberOf 202 = .ok (.iconst 0, 1) := by decide +kernel
theorem dX4_numberOf_203 : decode cX4_numberOf 203 = .ok (.invokestatic 156, 3) := by decide +kernel
theorem dX4_numberOf_206 : decode cX4_numberOf 206 = .ok (.ireturn, 1) := by decide +kernel
theorem dX4_numberOf_207 : decode cX4_numberOf 207 = .ok (.aload_n 0, 1) := by decide +kernel
theorem dX4_numberOf_208 : decode cX4_numberOf 208 = .ok (.getfield 46, 3) := by decide +kernel
theorem dX4_numberOf_211 : decode cX4_numberOf 211 = .ok (.iconst 1, 1) := by decide +kernel
theorem dX4_numberOf_212 : decode cX4_numberOf 212 = .ok (.invokestatic 156, 3) := by decide +kernel
theorem dX4_numberOf_215 : decode cX4_numberOf 215 = .ok (.ireturn, 1) := by decide +kernel
theorem dX4_numberOf_216 : decode cX4_numberOf 216 = .ok (.aload_n 0, 1) := by decide +kernel
theorem dX4_numberOf_217 : decode cX4_numberOf 217 = .ok (.getfield 35, 3) := by decide +kernel
theorem dX4_numberOf_220 : decode cX4_numberOf 220 = .ok (.getfield 231, 3) := by decide +kernel
theorem dX4_numberOf_223 : decode cX4_numberOf 223 = .ok (.ireturn, 1) := by decide +kernel
theorem dX4_numberOf_224 : decode cX4_numberOf 224 = .ok (.aload_n 0, 1) := by decide +kernel
theorem dX4_numberOf_225 : decode cX4_numberOf 225 = .ok (.getfield 35, 3) := by decide +kernel
theorem dX4_numberOf_228 : decode cX4_numberOf 228 = .ok (.getfield 211, 3) := by decide +kernel
theorem dX4_numberOf_231 : decode cX4_numberOf 231 = .ok (.ireturn, 1) := by decide +kernel
theorem dX4_numberOf_232 : decode cX4_numberOf 232 = .ok (.aload_n 0, 1) := by decide +kernel
theorem dX4_numberOf_233 : decode cX4_numberOf 233 = .ok (.iload_n 1, 1) := by decide +kernel
theorem dX4_numberOf_234 : decode cX4_numberOf 234 = .ok (.invokevirtual 286, 3) := by decide +kernel
theorem dX4_numberOf_237 : decode cX4_numberOf 237 = .ok (.ireturn, 1) := by decide +kernel
theorem dX4_settingOrSlowness_0 : decode cX4_settingOrSlowness 0 = .ok (.iload_n 1, 1) := by decide +kernel
theorem dX4_settingOrSlowness_1 : decode cX4_settingOrSlowness 1 = .ok (.bipush 20, 2) := by decide +kernel
theorem dX4_settingOrSlowness_3 : decode cX4_settingOrSlowness 3 = .ok (.bipush 23, 2) := by decide +kernel
theorem dX4_settingOrSlowness_5 : decode cX4_settingOrSlowness 5 = .ok (.invokestatic 83, 3) := by decide +kernel
theorem dX4_settingOrSlowness_8 : decode cX4_settingOrSlowness 8 = .ok (.ifCond .eq 15, 3) := by decide +kernel
theorem dX4_settingOrSlowness_11 : decode cX4_settingOrSlowness 11 = .ok (.aload_n 0, 1) := by decide +kernel
theorem dX4_settingOrSlowness_12 : decode cX4_settingOrSlowness 12 = .ok (.getfield 39, 3) := by decide +kernel
theorem dX4_settingOrSlowness_15 : decode cX4_settingOrSlowness 15 = .ok (.iload_n 1, 1) := by decide +kernel
theorem dX4_settingOrSlowness_16 : decode cX4_settingOrSlowness 16 = .ok (.bipush 20, 2) := by decide +kernel
theorem dX4_settingOrSlowness_18 : decode cX4_settingOrSlowness 18 = .ok (.isub, 1) := by decide +kernel
theorem dX4_settingOrSlowness_19 : decode cX4_settingOrSlowness 19 = .ok (.invokestatic 156, 3) := by decide +kernel
theorem dX4_settingOrSlowness_22 : decode cX4_settingOrSlowness 22 = .ok (.ireturn, 1) := by decide +kernel
theorem dX4_settingOrSlowness_23 : decode cX4_settingOrSlowness 23 = .ok (.iload_n 1, 1) := by decide +kernel
theorem dX4_settingOrSlowness_24 : decode cX4_settingOrSlowness 24 = .ok (.bipush 30, 2) := by decide +kernel
theorem dX4_settingOrSlowness_26 : decode cX4_settingOrSlowness 26 = .ok (.bipush 37, 2) := by decide +kernel
theorem dX4_settingOrSlowness_28 : decode cX4_settingOrSlowness 28 = .ok (.invokestatic 83, 3) := by decide +kernel
theorem dX4_settingOrSlowness_31 : decode cX4_settingOrSlowness 31 = .ok (.ifCond .eq 15, 3) := by decide +kernel
theorem dX4_settingOrSlowness_34 : decode cX4_settingOrSlowness 34 = .ok (.aload_n 0, 1) := by decide +kernel
theorem dX4_settingOrSlowness_35 : decode cX4_settingOrSlowness 35 = .ok (.getfield 43, 3) := by decide +kernel
theorem dX4_settingOrSlowness_38 : decode cX4_settingOrSlowness 38 = .ok (.iload_n 1, 1) := by decide +kernel
theorem dX4_settingOrSlowness_39 : decode cX4_settingOrSlowness 39 = .ok (.bipush 30, 2) := by decide +kernel
theorem dX4_settingOrSlowness_41 : decode cX4_settingOrSlowness 41 = .ok (.isub, 1) := by decide +kernel
theorem dX4_settingOrSlowness_42 : decode cX4_settingOrSlowness 42 = .ok (.invokestatic 156, 3) := by decide +kernel
theorem dX4_settingOrSlowness_45 : decode cX4_settingOrSlowness 45 = .ok (.ireturn, 1) := by decide +kernel
theorem dX4_settingOrSlowness_46 : decode cX4_settingOrSlowness 46 = .ok (.iconst (-1), 1) := by decide +kernel
theorem dX4_settingOrSlowness_47 : decode cX4_settingOrSlowness 47 = .ok (.ireturn, 1) := by decide +kernel
theorem dX5_init_0 : decode cX5_init 0 = .ok (.aload_n 0, 1) := by decide +kernel
theorem dX5_init_1 : decode cX5_init 1 = .ok (.invokespecial 1, 3) := by decide +kernel
theorem dX5_init_4 : decode cX5_init 4 = .ok (.return_, 1) := by decide +kernel
theorem dX5_copyFrom_0 : decode cX5_copyFrom 0 = .ok (.aload_n 0, 1) := by decide +kernel
