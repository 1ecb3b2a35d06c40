theorem dX9_puts_8 : decode cX9_puts 8 = .ok (.getfield 7, 3) := by decide +kernel
theorem dX9_puts_11 : decode cX9_puts 11 = .ok (.iload_n 1, 1) := by decide +kernel
theorem dX9_puts_12 : decode cX9_puts 12 = .ok (.iload_n 2, 1) := by decide +kernel
theorem dX9_puts_13 : decode cX9_puts 13 = .ok (.iastore, 1) := by decide +kernel
theorem dX9_puts_14 : decode cX9_puts 14 = .ok (.iload_n 3, 1) := by decide +kernel
theorem dX9_puts_15 : decode cX9_puts 15 = .ok (.ireturn, 1) := by decide +kernel
theorem dX9_write_0 : decode cX9_write 0 = .ok (.aload_n 0, 1) := by decide +kernel
theorem dX9_write_1 : decode cX9_write 1 = .ok (.invokevirtual 131, 3) := by decide +kernel
theorem dX9_write_4 : decode cX9_write 4 = .ok (.aload_n 0, 1) := by decide +kernel
theorem dX9_write_5 : decode cX9_write 5 = .ok (.aload_n 0, 1) := by decide +kernel
theorem dX9_write_6 : decode cX9_write 6 = .ok (.iload_n 1, 1) := by decide +kernel
theorem dX9_write_7 : decode cX9_write 7 = .ok (.iload_n 2, 1) := by decide +kernel
theorem dX9_write_8 : decode cX9_write 8 = .ok (.iload_n 3, 1) := by decide +kernel
theorem dX9_write_9 : decode cX9_write 9 = .ok (.invokevirtual 134, 3) := by decide +kernel
theorem dX9_write_12 : decode cX9_write 12 = .ok (.invokevirtual 138, 3) := by decide +kernel
theorem dX9_write_15 : decode cX9_write 15 = .ok (.ireturn, 1) := by decide +kernel
theorem dX9_tick_0 : decode cX9_tick 0 = .ok (.aload_n 0, 1) := by decide +kernel
theorem dX9_tick_1 : decode cX9_tick 1 = .ok (.invokevirtual 131, 3) := by decide +kernel
theorem dX9_tick_4 : decode cX9_tick 4 = .ok (.aload_n 0, 1) := by decide +kernel
theorem dX9_tick_5 : decode cX9_tick 5 = .ok (.aload_n 0, 1) := by decide +kernel
theorem dX9_tick_6 : decode cX9_tick 6 = .ok (.iload_n 1, 1) := by decide +kernel
theorem dX9_tick_7 : decode cX9_tick 7 = .ok (.invokevirtual 141, 3) := by decide +kernel
theorem dX9_tick_10 : decode cX9_tick 10 = .ok (.invokevirtual 138, 3) := by decide +kernel
theorem dX9_tick_13 : decode cX9_tick 13 = .ok (.ireturn, 1) := by decide +kernel
theorem dX9_cut_0 : decode cX9_cut 0 = .ok (.aload_n 0, 1) := by decide +kernel
theorem dX9_cut_1 : decode cX9_cut 1 = .ok (.invokevirtual 131, 3) := by decide +kernel
theorem dX9_cut_4 : decode cX9_cut 4 = .ok (.aload_n 0, 1) := by decide +kernel
theorem dX9_cut_5 : decode cX9_cut 5 = .ok (.aload_n 0, 1) := by decide +kernel
theorem dX9_cut_6 : decode cX9_cut 6 = .ok (.invokevirtual 144, 3) := by decide +kernel
theorem dX9_cut_9 : decode cX9_cut 9 = .ok (.invokevirtual 138, 3) := by decide +kernel
theorem dX9_cut_12 : decode cX9_cut 12 = .ok (.ireturn, 1) := by decide +kernel
theorem dX9_on_0 : decode cX9_on 0 = .ok (.aload_n 0, 1) := by decide +kernel
theorem dX9_on_1 : decode cX9_on 1 = .ok (.invokevirtual 131, 3) := by decide +kernel
theorem dX9_on_4 : decode cX9_on 4 = .ok (.aload_n 0, 1) := by decide +kernel
theorem dX9_on_5 : decode cX9_on 5 = .ok (.aload_n 0, 1) := by decide +kernel
theorem dX9_on_6 : decode cX9_on 6 = .ok (.invokevirtual 147, 3) := by decide +kernel
theorem dX9_on_9 : decode cX9_on 9 = .ok (.invokevirtual 138, 3) := by decide +kernel
theorem dX9_on_12 : decode cX9_on 12 = .ok (.ireturn, 1) := by decide +kernel
theorem dX9_turn_0 : decode cX9_turn 0 = .ok (.aload_n 0, 1) := by decide +kernel
theorem dX9_turn_1 : decode cX9_turn 1 = .ok (.invokevirtual 131, 3) := by decide +kernel
theorem dX9_turn_4 : decode cX9_turn 4 = .ok (.aload_n 0, 1) := by decide +kernel
theorem dX9_turn_5 : decode cX9_turn 5 = .ok (.aload_n 0, 1) := by decide +kernel
theorem dX9_turn_6 : decode cX9_turn 6 = .ok (.invokevirtual 150, 3) := by decide +kernel
theorem dX9_turn_9 : decode cX9_turn 9 = .ok (.invokevirtual 138, 3) := by decide +kernel
theorem dX9_turn_12 : decode cX9_turn 12 = .ok (.ireturn, 1) := by decide +kernel
theorem dX9_clean_0 : decode cX9_clean 0 = .ok (.aload_n 0, 1) := by decide +kernel
theorem dX9_clean_1 : decode cX9_clean 1 = .ok (.invokevirtual 131, 3) := by decide +kernel
theorem dX9_clean_4 : decode cX9_clean 4 = .ok (.aload_n 0, 1) := by decide +kernel
theorem dX9_clean_5 : decode cX9_clean 5 = .ok (.aload_n 0, 1) := by decide +kernel
theorem dX9_clean_6 : decode cX9_clean 6 = .ok (.iload_n 1, 1) := by decide +kernel
theorem dX9_clean_7 : decode cX9_clean 7 = .ok (.invokevirtual 153, 3) := by decide +kernel
theorem dX9_clean_10 : decode cX9_clean 10 = .ok (.invokevirtual 138, 3) := by decide +kernel
theorem dX9_clean_13 : decode cX9_clean 13 = .ok (.ireturn, 1) := by decide +kernel
theorem dX9_erase_0 : decode cX9_erase 0 = .ok (.aload_n 0, 1) := by decide +kernel
theorem dX9_erase_1 : decode cX9_erase 1 = .ok (.invokevirtual 131, 3) := by decide +kernel
theorem dX9_erase_4 : decode cX9_erase 4 = .ok (.aload_n 0, 1) := by decide +kernel
theorem dX9_erase_5 : decode cX9_erase 5 = .ok (.aload_n 0, 1) := by decide +kernel
theorem dX9_erase_6 : decode cX9_erase 6 = .ok (.iload_n 1, 1) := by decide +kernel
theorem dX9_erase_7 : decode cX9_erase 7 = .ok (.invokevirtual 156, 3) := by decide +kernel
theorem dX9_erase_10 : decode cX9_erase 10 = .ok (.invokevirtual 138, 3) := by decide +kernel
theorem dX9_erase_13 : decode cX9_erase 13 = .ok (.ireturn, 1) := by decide +kernel
theorem dX9_slow_0 : decode cX9_slow 0 = .ok (.aload_n 0, 1) := by decide +kernel
theorem dX9_slow_1 : decode cX9_slow 1 = .ok (.invokevirtual 131, 3) := by decide +kernel
theorem dX9_slow_4 : decode cX9_slow 4 = .ok (.aload_n 0, 1) := by decide +kernel
theorem dX9_slow_5 : decode cX9_slow 5 = .ok (.iload_n 1, 1) := by decide +kernel
theorem dX9_slow_6 : decode cX9_slow 6 = .ok (.iconst 0, 1) := by decide +kernel
theorem dX9_slow_7 : decode cX9_slow 7 = .ok (.bipush 7, 2) := by decide +kernel
theorem dX9_slow_9 : decode cX9_slow 9 = .ok (.invokestatic 32, 3) := by decide +kernel
theorem dX9_slow_12 : decode cX9_slow 12 = .ok (.ifCond .eq 24, 3) := by decide +kernel
theorem dX9_slow_15 : decode cX9_slow 15 = .ok (.iload_n 2, 1) := by decide +kernel
theorem dX9_slow_16 : decode cX9_slow 16 = .ok (.iconst 0, 1) := by decide +kernel
theorem dX9_slow_17 : decode cX9_slow 17 = .ok (.iconst 5, 1) := by decide +kernel
theorem dX9_slow_18 : decode cX9_slow 18 = .ok (.invokestatic 32, 3) := by decide +kernel
theorem dX9_slow_21 : decode cX9_slow 21 = .ok (.ifCond .eq 15, 3) := by decide +kernel
theorem dX9_slow_24 : decode cX9_slow 24 = .ok (.aload_n 0, 1) := by decide +kernel
theorem dX9_slow_25 : decode cX9_slow 25 = .ok (.bipush 12, 2) := by decide +kernel
theorem dX9_slow_27 : decode cX9_slow 27 = .ok (.iload_n 1, 1) := by decide +kernel
theorem dX9_slow_28 : decode cX9_slow 28 = .ok (.iadd, 1) := by decide +kernel
theorem dX9_slow_29 : decode cX9_slow 29 = .ok (.iload_n 2, 1) := by decide +kernel
theorem dX9_slow_30 : decode cX9_slow 30 = .ok (.invokevirtual 159, 3) := by decide +kernel
theorem dX9_slow_33 : decode cX9_slow 33 = .ok (.goto 4, 3) := by decide +kernel
theorem dX9_slow_36 : decode cX9_slow 36 = .ok (.iconst (-1), 1) := by decide +kernel
theorem dX9_slow_37 : decode cX9_slow 37 = .ok (.invokevirtual 138, 3) := by decide +kernel
theorem dX9_slow_40 : decode cX9_slow 40 = .ok (.ireturn, 1) := by decide +kernel
theorem dX9_set_0 : decode cX9_set 0 = .ok (.aload_n 0, 1) := by decide +kernel
theorem dX9_set_1 : decode cX9_set 1 = .ok (.invokevirtual 131, 3) := by decide +kernel
theorem dX9_set_4 : decode cX9_set 4 = .ok (.iload_n 1, 1) := by decide +kernel
theorem dX9_set_5 : decode cX9_set 5 = .ok (.ifCond .ne 8, 3) := by decide +kernel
theorem dX9_set_8 : decode cX9_set 8 = .ok (.bipush 9, 2) := by decide +kernel
theorem dX9_set_10 : decode cX9_set 10 = .ok (.goto 24, 3) := by decide +kernel
theorem dX9_set_13 : decode cX9_set 13 = .ok (.iload_n 1, 1) := by decide +kernel
theorem dX9_set_14 : decode cX9_set 14 = .ok (.iconst 1, 1) := by decide +kernel
theorem dX9_set_15 : decode cX9_set 15 = .ok (.if_icmp .ne 8, 3) := by decide +kernel
theorem dX9_set_18 : decode cX9_set 18 = .ok (.bipush 20, 2) := by decide +kernel
theorem dX9_set_20 : decode cX9_set 20 = .ok (.goto 14, 3) := by decide +kernel
theorem dX9_set_23 : decode cX9_set 23 = .ok (.iload_n 1, 1) := by decide +kernel
theorem dX9_set_24 : decode cX9_set 24 = .ok (.iconst 2, 1) := by decide +kernel
theorem dX9_set_25 : decode cX9_set 25 = .ok (.if_icmp .ne 7, 3) := by decide +kernel
theorem dX9_set_28 : decode cX9_set 28 = .ok (.iconst 1, 1) := by decide +kernel
theorem dX9_set_29 : decode cX9_set 29 = .ok (.goto 5, 3) := by decide +kernel
theorem dX9_set_32 : decode cX9_set 32 = .ok (.bipush 99, 2) := by decide +kernel
theorem dX9_set_34 : decode cX9_set 34 = .ok (.istore_n 3, 1) := by decide +kernel
theorem dX9_set_35 : decode cX9_set 35 = .ok (.aload_n 0, 1) := by decide +kernel
theorem dX9_set_36 : decode cX9_set 36 = .ok (.iload_n 1, 1) := by decide +kernel
theorem dX9_set_37 : decode cX9_set 37 = .ok (.iconst 0, 1) := by decide +kernel
theorem dX9_set_38 : decode cX9_set 38 = .ok (.iconst 3, 1) := by decide +kernel
theorem dX9_set_39 : decode cX9_set 39 = .ok (.invokestatic 32, 3) := by decide +kernel
theorem dX9_set_42 : decode cX9_set 42 = .ok (.ifCond .eq 33, 3) := by decide +kernel
theorem dX9_set_45 : decode cX9_set 45 = .ok (.iload_n 2, 1) := by decide +kernel
theorem dX9_set_46 : decode cX9_set 46 = .ok (.iload_n 1, 1) := by decide +kernel
theorem dX9_set_47 : decode cX9_set 47 = .ok (.iconst 2, 1) := by decide +kernel
theorem dX9_set_48 : decode cX9_set 48 = .ok (.if_icmp .ne 7, 3) := by decide +kernel
theorem dX9_set_51 : decode cX9_set 51 = .ok (.iconst 0, 1) := by decide +kernel
theorem dX9_set_52 : decode cX9_set 52 = .ok (.goto 4, 3) := by decide +kernel
theorem dX9_set_55 : decode cX9_set 55 = .ok (.iconst 1, 1) := by decide +kernel
theorem dX9_set_56 : decode cX9_set 56 = .ok (.iload_n 3, 1) := by decide +kernel
theorem dX9_set_57 : decode cX9_set 57 = .ok (.invokestatic 32, 3) := by decide +kernel
theorem dX9_set_60 : decode cX9_set 60 = .ok (.ifCond .eq 15, 3) := by decide +kernel
theorem dX9_set_63 : decode cX9_set 63 = .ok (.aload_n 0, 1) := by decide +kernel
theorem dX9_set_64 : decode cX9_set 64 = .ok (.bipush 20, 2) := by decide +kernel
theorem dX9_set_66 : decode cX9_set 66 = .ok (.iload_n 1, 1) := by decide +kernel
theorem dX9_set_67 : decode cX9_set 67 = .ok (.iadd, 1) := by decide +kernel
theorem dX9_set_68 : decode cX9_set 68 = .ok (.iload_n 2, 1) := by decide +kernel
theorem dX9_set_69 : decode cX9_set 69 = .ok (.invokevirtual 159, 3) := by decide +kernel
theorem dX9_set_72 : decode cX9_set 72 = .ok (.goto 4, 3) := by decide +kernel
theorem dX9_set_75 : decode cX9_set 75 = .ok (.iconst (-1), 1) := by decide +kernel
theorem dX9_set_76 : decode cX9_set 76 = .ok (.invokevirtual 138, 3) := by decide +kernel
theorem dX9_set_79 : decode cX9_set 79 = .ok (.ireturn, 1) := by decide +kernel
theorem dX9_isKey_0 : decode cX9_isKey 0 = .ok (.iload_n 0, 1) := by decide +kernel
theorem dX9_isKey_1 : decode cX9_isKey 1 = .ok (.iconst 0, 1) := by decide +kernel
theorem dX9_isKey_2 : decode cX9_isKey 2 = .ok (.bipush 11, 2) := by decide +kernel
theorem dX9_isKey_4 : decode cX9_isKey 4 = .ok (.invokestatic 32, 3) := by decide +kernel
theorem dX9_isKey_7 : decode cX9_isKey 7 = .ok (.ireturn, 1) := by decide +kernel
theorem dX9_read_0 : decode cX9_read 0 = .ok (.iload_n 1, 1) := by decide +kernel
theorem dX9_read_1 : decode cX9_read 1 = .ok (.invokestatic 162, 3) := by decide +kernel
theorem dX9_read_4 : decode cX9_read 4 = .ok (.ifCond .ne 5, 3) := by decide +kernel
theorem dX9_read_7 : decode cX9_read 7 = .ok (.iconst (-1), 1) := by decide +kernel
theorem dX9_read_8 : decode cX9_read 8 = .ok (.ireturn, 1) := by decide +kernel
theorem dX9_read_9 : decode cX9_read 9 = .ok (.aload_n 0, 1) := by decide +kernel
theorem dX9_read_10 : decode cX9_read 10 = .ok (.iload_n 1, 1) := by decide +kernel
theorem dX9_read_11 : decode cX9_read 11 = .ok (.invokevirtual 51, 3) := by decide +kernel
theorem dX9_read_14 : decode cX9_read 14 = .ok (.istore_n 2, 1) := by decide +kernel
theorem dX9_read_15 : decode cX9_read 15 = .ok (.iload_n 2, 1) := by decide +kernel
theorem dX9_read_16 : decode cX9_read 16 = .ok (.ifCond .ge 8, 3) := by decide +kernel
theorem dX9_read_19 : decode cX9_read 19 = .ok (.bipush (-4), 2) := by decide +kernel
theorem dX9_read_21 : decode cX9_read 21 = .ok (.goto 15, 3) := by decide +kernel
theorem dX9_read_24 : decode cX9_read 24 = .ok (.aload_n 0, 1) := by decide +kernel
theorem dX9_read_25 : decode cX9_read 25 = .ok (.getfield 7, 3) := by decide +kernel
theorem dX9_read_28 : decode cX9_read 28 = .ok (.aload_n 0, 1) := by decide +kernel
theorem dX9_read_29 : decode cX9_read 29 = .ok (.iload_n 2, 1) := by decide +kernel
theorem dX9_read_30 : decode cX9_read 30 = .ok (.invokevirtual 44, 3) := by decide +kernel
theorem dX9_read_33 : decode cX9_read 33 = .ok (.iconst 2, 1) := by decide +kernel
theorem dX9_read_34 : decode cX9_read 34 = .ok (.iadd, 1) := by decide +kernel
theorem dX9_read_35 : decode cX9_read 35 = .ok (.iaload, 1) := by decide +kernel
theorem dX9_read_36 : decode cX9_read 36 = .ok (.ireturn, 1) := by decide +kernel
theorem dX9_placeOf_0 : decode cX9_placeOf 0 = .ok (.iload_n 1, 1) := by decide +kernel
theorem dX9_placeOf_1 : decode cX9_placeOf 1 = .ok (.invokestatic 162, 3) := by decide +kernel
theorem dX9_placeOf_4 : decode cX9_placeOf 4 = .ok (.ifCond .eq 12, 3) := by decide +kernel
theorem dX9_placeOf_7 : decode cX9_placeOf 7 = .ok (.iload_n 2, 1) := by decide +kernel
theorem dX9_placeOf_8 : decode cX9_placeOf 8 = .ok (.iconst 0, 1) := by decide +kernel
theorem dX9_placeOf_9 : decode cX9_placeOf 9 = .ok (.iconst 2, 1) := by decide +kernel
theorem dX9_placeOf_10 : decode cX9_placeOf 10 = .ok (.invokestatic 32, 3) := by decide +kernel
theorem dX9_placeOf_13 : decode cX9_placeOf 13 = .ok (.ifCond .ne 5, 3) := by decide +kernel
theorem dX9_placeOf_16 : decode cX9_placeOf 16 = .ok (.iconst (-1), 1) := by decide +kernel
theorem dX9_placeOf_17 : decode cX9_placeOf 17 = .ok (.ireturn, 1) := by decide +kernel
theorem dX9_placeOf_18 : decode cX9_placeOf 18 = .ok (.aload_n 0, 1) := by decide +kernel
theorem dX9_placeOf_19 : decode cX9_placeOf 19 = .ok (.iload_n 1, 1) := by decide +kernel
theorem dX9_placeOf_20 : decode cX9_placeOf 20 = .ok (.invokevirtual 51, 3) := by decide +kernel
theorem dX9_placeOf_23 : decode cX9_placeOf 23 = .ok (.istore_n 3, 1) := by decide +kernel
theorem dX9_placeOf_24 : decode cX9_placeOf 24 = .ok (.iload_n 3, 1) := by decide +kernel
theorem dX9_placeOf_25 : decode cX9_placeOf 25 = .ok (.ifCond .ge 6, 3) := by decide +kernel
theorem dX9_placeOf_28 : decode cX9_placeOf 28 = .ok (.bipush (-4), 2) := by decide +kernel
theorem dX9_placeOf_30 : decode cX9_placeOf 30 = .ok (.ireturn, 1) := by decide +kernel
theorem dX9_placeOf_31 : decode cX9_placeOf 31 = .ok (.iload_n 2, 1) := by decide +kernel
theorem dX9_placeOf_32 : decode cX9_placeOf 32 = .ok (.ifCond .ne 10, 3) := by decide +kernel
theorem dX9_placeOf_35 : decode cX9_placeOf 35 = .ok (.iload_n 3, 1) := by decide +kernel
theorem dX9_placeOf_36 : decode cX9_placeOf 36 = .ok (.bipush 24, 2) := by decide +kernel
theorem dX9_placeOf_38 : decode cX9_placeOf 38 = .ok (.idiv, 1) := by decide +kernel
theorem dX9_placeOf_39 : decode cX9_placeOf 39 = .ok (.goto 27, 3) := by decide +kernel
theorem dX9_placeOf_42 : decode cX9_placeOf 42 = .ok (.iload_n 2, 1) := by decide +kernel
theorem dX9_placeOf_43 : decode cX9_placeOf 43 = .ok (.iconst 1, 1) := by decide +kernel
theorem dX9_placeOf_44 : decode cX9_placeOf 44 = .ok (.if_icmp .ne 10, 3) := by decide +kernel
theorem dX9_placeOf_47 : decode cX9_placeOf 47 = .ok (.iload_n 3, 1) := by decide +kernel
theorem dX9_placeOf_48 : decode cX9_placeOf 48 = .ok (.bipush 24, 2) := by decide +kernel
theorem dX9_placeOf_50 : decode cX9_placeOf 50 = .ok (.irem, 1) := by decide +kernel
theorem dX9_placeOf_51 : decode cX9_placeOf 51 = .ok (.goto 15, 3) := by decide +kernel
theorem dX9_placeOf_54 : decode cX9_placeOf 54 = .ok (.aload_n 0, 1) := by decide +kernel
theorem dX9_placeOf_55 : decode cX9_placeOf 55 = .ok (.getfield 7, 3) := by decide +kernel
theorem dX9_placeOf_58 : decode cX9_placeOf 58 = .ok (.aload_n 0, 1) := by decide +kernel
theorem dX9_placeOf_59 : decode cX9_placeOf 59 = .ok (.iload_n 3, 1) := by decide +kernel
theorem dX9_placeOf_60 : decode cX9_placeOf 60 = .ok (.invokevirtual 44, 3) := by decide +kernel
theorem dX9_placeOf_63 : decode cX9_placeOf 63 = .ok (.iconst 3, 1) := by decide +kernel
theorem dX9_placeOf_64 : decode cX9_placeOf 64 = .ok (.iadd, 1) := by decide +kernel
theorem dX9_placeOf_65 : decode cX9_placeOf 65 = .ok (.iaload, 1) := by decide +kernel
theorem dX9_placeOf_66 : decode cX9_placeOf 66 = .ok (.ireturn, 1) := by decide +kernel
theorem dX9_pageOf_0 : decode cX9_pageOf 0 = .ok (.iload_n 1, 1) := by decide +kernel
theorem dX9_pageOf_1 : decode cX9_pageOf 1 = .ok (.invokestatic 128, 3) := by decide +kernel
theorem dX9_pageOf_4 : decode cX9_pageOf 4 = .ok (.ifCond .eq 22, 3) := by decide +kernel
theorem dX9_pageOf_7 : decode cX9_pageOf 7 = .ok (.iload_n 2, 1) := by decide +kernel
theorem dX9_pageOf_8 : decode cX9_pageOf 8 = .ok (.iconst 0, 1) := by decide +kernel
theorem dX9_pageOf_9 : decode cX9_pageOf 9 = .ok (.bipush 15, 2) := by decide +kernel
theorem dX9_pageOf_11 : decode cX9_pageOf 11 = .ok (.invokestatic 32, 3) := by decide +kernel
theorem dX9_pageOf_14 : decode cX9_pageOf 14 = .ok (.ifCond .eq 12, 3) := by decide +kernel
theorem dX9_pageOf_17 : decode cX9_pageOf 17 = .ok (.iload_n 3, 1) := by decide +kernel
theorem dX9_pageOf_18 : decode cX9_pageOf 18 = .ok (.iconst 0, 1) := by decide +kernel
theorem dX9_pageOf_19 : decode cX9_pageOf 19 = .ok (.iconst 5, 1) := by decide +kernel
theorem dX9_pageOf_20 : decode cX9_pageOf 20 = .ok (.invokestatic 32, 3) := by decide +kernel
theorem dX9_pageOf_23 : decode cX9_pageOf 23 = .ok (.ifCond .ne 5, 3) := by decide +kernel
theorem dX9_pageOf_26 : decode cX9_pageOf 26 = .ok (.iconst (-1), 1) := by decide +kernel
theorem dX9_pageOf_27 : decode cX9_pageOf 27 = .ok (.ireturn, 1) := by decide +kernel
theorem dX9_pageOf_28 : decode cX9_pageOf 28 = .ok (.aload_n 0, 1) := by decide +kernel
theorem dX9_pageOf_29 : decode cX9_pageOf 29 = .ok (.iload_n 1, 1) := by decide +kernel
theorem dX9_pageOf_30 : decode cX9_pageOf 30 = .ok (.iload_n 2, 1) := by decide +kernel
theorem dX9_pageOf_31 : decode cX9_pageOf 31 = .ok (.invokevirtual 40, 3) := by decide +kernel
theorem dX9_pageOf_34 : decode cX9_pageOf 34 = .ok (.istore 4, 2) := by decide +kernel
theorem dX9_pageOf_36 : decode cX9_pageOf 36 = .ok (.iload_n 3, 1) := by decide +kernel
theorem dX9_pageOf_37 : decode cX9_pageOf 37 = .ok (.lookupswitch 61 #[(0, 35), (4, 43), (5, 48)], 35) := by decide +kernel
theorem dX9_pageOf_72 : decode cX9_pageOf 72 = .ok (.aload_n 0, 1) := by decide +kernel
theorem dX9_pageOf_73 : decode cX9_pageOf 73 = .ok (.getfield 7, 3) := by decide +kernel
theorem dX9_pageOf_76 : decode cX9_pageOf 76 = .ok (.iload 4, 2) := by decide +kernel
theorem dX9_pageOf_78 : decode cX9_pageOf 78 = .ok (.iaload, 1) := by decide +kernel
theorem dX9_pageOf_79 : decode cX9_pageOf 79 = .ok (.ireturn, 1) := by decide +kernel
theorem dX9_pageOf_80 : decode cX9_pageOf 80 = .ok (.iload_n 2, 1) := by decide +kernel
theorem dX9_pageOf_81 : decode cX9_pageOf 81 = .ok (.invokestatic 64, 3) := by decide +kernel
theorem dX9_pageOf_84 : decode cX9_pageOf 84 = .ok (.ireturn, 1) := by decide +kernel
theorem dX9_pageOf_85 : decode cX9_pageOf 85 = .ok (.iload_n 2, 1) := by decide +kernel
theorem dX9_pageOf_86 : decode cX9_pageOf 86 = .ok (.invokestatic 36, 3) := by decide +kernel
theorem dX9_pageOf_89 : decode cX9_pageOf 89 = .ok (.ifCond .eq 7, 3) := by decide +kernel
theorem dX9_pageOf_92 : decode cX9_pageOf 92 = .ok (.iconst 1, 1) := by decide +kernel
theorem dX9_pageOf_93 : decode cX9_pageOf 93 = .ok (.goto 4, 3) := by decide +kernel
theorem dX9_pageOf_96 : decode cX9_pageOf 96 = .ok (.iconst 0, 1) := by decide +kernel
theorem dX9_pageOf_97 : decode cX9_pageOf 97 = .ok (.ireturn, 1) := by decide +kernel
theorem dX9_pageOf_98 : decode cX9_pageOf 98 = .ok (.aload_n 0, 1) := by decide +kernel
theorem dX9_pageOf_99 : decode cX9_pageOf 99 = .ok (.getfield 7, 3) := by decide +kernel
theorem dX9_pageOf_102 : decode cX9_pageOf 102 = .ok (.iload 4, 2) := by decide +kernel
theorem dX9_pageOf_104 : decode cX9_pageOf 104 = .ok (.iaload, 1) := by decide +kernel
theorem dX9_pageOf_105 : decode cX9_pageOf 105 = .ok (.iconst 2, 1) := by decide +kernel
theorem dX9_pageOf_106 : decode cX9_pageOf 106 = .ok (.if_icmp .ne 15, 3) := by decide +kernel
theorem dX9_pageOf_109 : decode cX9_pageOf 109 = .ok (.aload_n 0, 1) := by decide +kernel
theorem dX9_pageOf_110 : decode cX9_pageOf 110 = .ok (.getfield 7, 3) := by decide +kernel
theorem dX9_pageOf_113 : decode cX9_pageOf 113 = .ok (.iload 4, 2) := by decide +kernel
theorem dX9_pageOf_115 : decode cX9_pageOf 115 = .ok (.iload_n 3, 1) := by decide +kernel
theorem dX9_pageOf_116 : decode cX9_pageOf 116 = .ok (.iadd, 1) := by decide +kernel
theorem dX9_pageOf_117 : decode cX9_pageOf 117 = .ok (.iaload, 1) := by decide +kernel
theorem dX9_pageOf_118 : decode cX9_pageOf 118 = .ok (.goto 5, 3) := by decide +kernel
theorem dX9_pageOf_121 : decode cX9_pageOf 121 = .ok (.bipush (-4), 2) := by decide +kernel
theorem dX9_pageOf_123 : decode cX9_pageOf 123 = .ok (.ireturn, 1) := by decide +kernel
theorem dX9_backupOf_0 : decode cX9_backupOf 0 = .ok (.iload_n 1, 1) := by decide +kernel
theorem dX9_backupOf_1 : decode cX9_backupOf 1 = .ok (.invokestatic 128, 3) := by decide +kernel
theorem dX9_backupOf_4 : decode cX9_backupOf 4 = .ok (.ifCond .eq 22, 3) := by decide +kernel
theorem dX9_backupOf_7 : decode cX9_backupOf 7 = .ok (.iload_n 2, 1) := by decide +kernel
theorem dX9_backupOf_8 : decode cX9_backupOf 8 = .ok (.iconst 0, 1) := by decide +kernel
theorem dX9_backupOf_9 : decode cX9_backupOf 9 = .ok (.bipush 7, 2) := by decide +kernel
theorem dX9_backupOf_11 : decode cX9_backupOf 11 = .ok (.invokestatic 32, 3) := by decide +kernel
theorem dX9_backupOf_14 : decode cX9_backupOf 14 = .ok (.ifCond .eq 12, 3) := by decide +kernel
theorem dX9_backupOf_17 : decode cX9_backupOf 17 = .ok (.iload_n 3, 1) := by decide +kernel
theorem dX9_backupOf_18 : decode cX9_backupOf 18 = .ok (.iconst 0, 1) := by decide +kernel
theorem dX9_backupOf_19 : decode cX9_backupOf 19 = .ok (.iconst 3, 1) := by decide +kernel
theorem dX9_backupOf_20 : decode cX9_backupOf 20 = .ok (.invokestatic 32, 3) := by decide +kernel
theorem dX9_backupOf_23 : decode cX9_backupOf 23 = .ok (.ifCond .ne 5, 3) := by decide +kernel
theorem dX9_backupOf_26 : decode cX9_backupOf 26 = .ok (.iconst (-1), 1) := by decide +kernel
theorem dX9_backupOf_27 : decode cX9_backupOf 27 = .ok (.ireturn, 1) := by decide +kernel
theorem dX9_backupOf_28 : decode cX9_backupOf 28 = .ok (.aload_n 0, 1) := by decide +kernel
theorem dX9_backupOf_29 : decode cX9_backupOf 29 = .ok (.iload_n 1, 1) := by decide +kernel
theorem dX9_backupOf_30 : decode cX9_backupOf 30 = .ok (.iload_n 2, 1) := by decide +kernel
theorem dX9_backupOf_31 : decode cX9_backupOf 31 = .ok (.invokevirtual 48, 3) := by decide +kernel
theorem dX9_backupOf_34 : decode cX9_backupOf 34 = .ok (.istore 4, 2) := by decide +kernel
theorem dX9_backupOf_36 : decode cX9_backupOf 36 = .ok (.aload_n 0, 1) := by decide +kernel
theorem dX9_backupOf_37 : decode cX9_backupOf 37 = .ok (.getfield 7, 3) := by decide +kernel
theorem dX9_backupOf_40 : decode cX9_backupOf 40 = .ok (.iload 4, 2) := by decide +kernel
theorem dX9_backupOf_42 : decode cX9_backupOf 42 = .ok (.iaload, 1) := by decide +kernel
theorem dX9_backupOf_43 : decode cX9_backupOf 43 = .ok (.ifCond .ne 8, 3) := by decide +kernel
theorem dX9_backupOf_46 : decode cX9_backupOf 46 = .ok (.bipush (-4), 2) := by decide +kernel
theorem dX9_backupOf_48 : decode cX9_backupOf 48 = .ok (.goto 35, 3) := by decide +kernel
theorem dX9_backupOf_51 : decode cX9_backupOf 51 = .ok (.iload_n 3, 1) := by decide +kernel
theorem dX9_backupOf_52 : decode cX9_backupOf 52 = .ok (.ifCond .le 15, 3) := by decide +kernel
theorem dX9_backupOf_55 : decode cX9_backupOf 55 = .ok (.aload_n 0, 1) := by decide +kernel
theorem dX9_backupOf_56 : decode cX9_backupOf 56 = .ok (.getfield 7, 3) := by decide +kernel
theorem dX9_backupOf_59 : decode cX9_backupOf 59 = .ok (.iload 4, 2) := by decide +kernel
theorem dX9_backupOf_61 : decode cX9_backupOf 61 = .ok (.iload_n 3, 1) := by decide +kernel
theorem dX9_backupOf_62 : decode cX9_backupOf 62 = .ok (.iadd, 1) := by decide +kernel
theorem dX9_backupOf_63 : decode cX9_backupOf 63 = .ok (.iaload, 1) := by decide +kernel
theorem dX9_backupOf_64 : decode cX9_backupOf 64 = .ok (.goto 19, 3) := by decide +kernel
theorem dX9_backupOf_67 : decode cX9_backupOf 67 = .ok (.aload_n 0, 1) := by decide +kernel
theorem dX9_backupOf_68 : decode cX9_backupOf 68 = .ok (.getfield 7, 3) := by decide +kernel
theorem dX9_backupOf_71 : decode cX9_backupOf 71 = .ok (.iload 4, 2) := by decide +kernel
theorem dX9_backupOf_73 : decode cX9_backupOf 73 = .ok (.iaload, 1) := by decide +kernel
theorem dX9_backupOf_74 : decode cX9_backupOf 74 = .ok (.iconst 2, 1) := by decide +kernel
theorem dX9_backupOf_75 : decode cX9_backupOf 75 = .ok (.if_icmp .ne 7, 3) := by decide +kernel
theorem dX9_backupOf_78 : decode cX9_backupOf 78 = .ok (.iconst 1, 1) := by decide +kernel
theorem dX9_backupOf_79 : decode cX9_backupOf 79 = .ok (.goto 4, 3) := by decide +kernel
theorem dX9_backupOf_82 : decode cX9_backupOf 82 = .ok (.iconst 0, 1) := by decide +kernel
theorem dX9_backupOf_83 : decode cX9_backupOf 83 = .ok (.ireturn, 1) := by decide +kernel
theorem dX9_waits_0 : decode cX9_waits 0 = .ok (.iload_n 1, 1) := by decide +kernel
theorem dX9_waits_1 : decode cX9_waits 1 = .ok (.ifCond .lt 12, 3) := by decide +kernel
theorem dX9_waits_4 : decode cX9_waits 4 = .ok (.iload_n 2, 1) := by decide +kernel
theorem dX9_waits_5 : decode cX9_waits 5 = .ok (.iconst 0, 1) := by decide +kernel
theorem dX9_waits_6 : decode cX9_waits 6 = .ok (.iconst 2, 1) := by decide +kernel
theorem dX9_waits_7 : decode cX9_waits 7 = .ok (.invokestatic 32, 3) := by decide +kernel
theorem dX9_waits_10 : decode cX9_waits 10 = .ok (.ifCond .ne 5, 3) := by decide +kernel
theorem dX9_waits_13 : decode cX9_waits 13 = .ok (.iconst (-1), 1) := by decide +kernel
theorem dX9_waits_14 : decode cX9_waits 14 = .ok (.ireturn, 1) := by decide +kernel
theorem dX9_waits_15 : decode cX9_waits 15 = .ok (.iload_n 1, 1) := by decide +kernel
theorem dX9_waits_16 : decode cX9_waits 16 = .ok (.aload_n 0, 1) := by decide +kernel
theorem dX9_waits_17 : decode cX9_waits 17 = .ok (.getfield 7, 3) := by decide +kernel
theorem dX9_waits_20 : decode cX9_waits 20 = .ok (.bipush 11, 2) := by decide +kernel
theorem dX9_waits_22 : decode cX9_waits 22 = .ok (.iaload, 1) := by decide +kernel
theorem dX9_waits_23 : decode cX9_waits 23 = .ok (.if_icmp .ge 20, 3) := by decide +kernel
theorem dX9_waits_26 : decode cX9_waits 26 = .ok (.aload_n 0, 1) := by decide +kernel
theorem dX9_waits_27 : decode cX9_waits 27 = .ok (.getfield 7, 3) := by decide +kernel
theorem dX9_waits_30 : decode cX9_waits 30 = .ok (.sipush 216, 3) := by decide +kernel
theorem dX9_waits_33 : decode cX9_waits 33 = .ok (.iconst 4, 1) := by decide +kernel
theorem dX9_waits_34 : decode cX9_waits 34 = .ok (.iload_n 1, 1) := by decide +kernel
theorem dX9_waits_35 : decode cX9_waits 35 = .ok (.imul, 1) := by decide +kernel
theorem dX9_waits_36 : decode cX9_waits 36 = .ok (.iadd, 1) := by decide +kernel
theorem dX9_waits_37 : decode cX9_waits 37 = .ok (.iload_n 2, 1) := by decide +kernel
theorem dX9_waits_38 : decode cX9_waits 38 = .ok (.iadd, 1) := by decide +kernel
theorem dX9_waits_39 : decode cX9_waits 39 = .ok (.iaload, 1) := by decide +kernel
theorem dX9_waits_40 : decode cX9_waits 40 = .ok (.goto 5, 3) := by decide +kernel
theorem dX9_waits_43 : decode cX9_waits 43 = .ok (.bipush (-4), 2) := by decide +kernel
theorem dX9_waits_45 : decode cX9_waits 45 = .ok (.ireturn, 1) := by decide +kernel
theorem dX9_torn_0 : decode cX9_torn 0 = .ok (.iconst 0, 1) := by decide +kernel
theorem dX9_torn_1 : decode cX9_torn 1 = .ok (.istore_n 1, 1) := by decide +kernel
theorem dX9_torn_2 : decode cX9_torn 2 = .ok (.iconst 0, 1) := by decide +kernel
theorem dX9_torn_3 : decode cX9_torn 3 = .ok (.istore_n 2, 1) := by decide +kernel
theorem dX9_torn_4 : decode cX9_torn 4 = .ok (.iload_n 2, 1) := by decide +kernel
theorem dX9_torn_5 : decode cX9_torn 5 = .ok (.bipush 32, 2) := by decide +kernel
theorem dX9_torn_7 : decode cX9_torn 7 = .ok (.if_icmp .ge 32, 3) := by decide +kernel
theorem dX9_torn_10 : decode cX9_torn 10 = .ok (.iload_n 1, 1) := by decide +kernel
theorem dX9_torn_11 : decode cX9_torn 11 = .ok (.aload_n 0, 1) := by decide +kernel
theorem dX9_torn_12 : decode cX9_torn 12 = .ok (.getfield 7, 3) := by decide +kernel
theorem dX9_torn_15 : decode cX9_torn 15 = .ok (.bipush 24, 2) := by decide +kernel
theorem dX9_torn_17 : decode cX9_torn 17 = .ok (.iconst 4, 1) := by decide +kernel
theorem dX9_torn_18 : decode cX9_torn 18 = .ok (.iload_n 2, 1) := by decide +kernel
theorem dX9_torn_19 : decode cX9_torn 19 = .ok (.imul, 1) := by decide +kernel
theorem dX9_torn_20 : decode cX9_torn 20 = .ok (.iadd, 1) := by decide +kernel
theorem dX9_torn_21 : decode cX9_torn 21 = .ok (.iaload, 1) := by decide +kernel
theorem dX9_torn_22 : decode cX9_torn 22 = .ok (.iconst 3, 1) := by decide +kernel
theorem dX9_torn_23 : decode cX9_torn 23 = .ok (.if_icmp .ne 7, 3) := by decide +kernel
theorem dX9_torn_26 : decode cX9_torn 26 = .ok (.iconst 1, 1) := by decide +kernel
theorem dX9_torn_27 : decode cX9_torn 27 = .ok (.goto 4, 3) := by decide +kernel
theorem dX9_torn_30 : decode cX9_torn 30 = .ok (.iconst 0, 1) := by decide +kernel
theorem dX9_torn_31 : decode cX9_torn 31 = .ok (.iadd, 1) := by decide +kernel
theorem dX9_torn_32 : decode cX9_torn 32 = .ok (.istore_n 1, 1) := by decide +kernel
theorem dX9_torn_33 : decode cX9_torn 33 = .ok (.iinc 2 1, 3) := by decide +kernel
theorem dX9_torn_36 : decode cX9_torn 36 = .ok (.goto (-32), 3) := by decide +kernel
theorem dX9_torn_39 : decode cX9_torn 39 = .ok (.iload_n 1, 1) := by decide +kernel
theorem dX9_torn_40 : decode cX9_torn 40 = .ok (.ireturn, 1) := by decide +kernel
theorem dX9_keysThere_0 : decode cX9_keysThere 0 = .ok (.iconst 0, 1) := by decide +kernel
theorem dX9_keysThere_1 : decode cX9_keysThere 1 = .ok (.istore_n 1, 1) := by decide +kernel
theorem dX9_keysThere_2 : decode cX9_keysThere 2 = .ok (.iconst 0, 1) := by decide +kernel
theorem dX9_keysThere_3 : decode cX9_keysThere 3 = .ok (.istore_n 2, 1) := by decide +kernel
theorem dX9_keysThere_4 : decode cX9_keysThere 4 = .ok (.iload_n 2, 1) := by decide +kernel
theorem dX9_keysThere_5 : decode cX9_keysThere 5 = .ok (.bipush 12, 2) := by decide +kernel
theorem dX9_keysThere_7 : decode cX9_keysThere 7 = .ok (.if_icmp .ge 25, 3) := by decide +kernel
theorem dX9_keysThere_10 : decode cX9_keysThere 10 = .ok (.iload_n 1, 1) := by decide +kernel
theorem dX9_keysThere_11 : decode cX9_keysThere 11 = .ok (.aload_n 0, 1) := by decide +kernel
theorem dX9_keysThere_12 : decode cX9_keysThere 12 = .ok (.iload_n 2, 1) := by decide +kernel
theorem dX9_keysThere_13 : decode cX9_keysThere 13 = .ok (.invokevirtual 51, 3) := by decide +kernel
theorem dX9_keysThere_16 : decode cX9_keysThere 16 = .ok (.ifCond .ge 7, 3) := by decide +kernel
theorem dX9_keysThere_19 : decode cX9_keysThere 19 = .ok (.iconst 0, 1) := by decide +kernel
theorem dX9_keysThere_20 : decode cX9_keysThere 20 = .ok (.goto 4, 3) := by decide +kernel
theorem dX9_keysThere_23 : decode cX9_keysThere 23 = .ok (.iconst 1, 1) := by decide +kernel
theorem dX9_keysThere_24 : decode cX9_keysThere 24 = .ok (.iadd, 1) := by decide +kernel
theorem dX9_keysThere_25 : decode cX9_keysThere 25 = .ok (.istore_n 1, 1) := by decide +kernel
theorem dX9_keysThere_26 : decode cX9_keysThere 26 = .ok (.iinc 2 1, 3) := by decide +kernel
theorem dX9_keysThere_29 : decode cX9_keysThere 29 = .ok (.goto (-25), 3) := by decide +kernel
theorem dX9_keysThere_32 : decode cX9_keysThere 32 = .ok (.iload_n 1, 1) := by decide +kernel
theorem dX9_keysThere_33 : decode cX9_keysThere 33 = .ok (.ireturn, 1) := by decide +kernel
theorem dX9_counted_0 : decode cX9_counted 0 = .ok (.iload_n 1, 1) := by decide +kernel
theorem dX9_counted_1 : decode cX9_counted 1 = .ok (.tableswitch 194 0 15 #[79, 86, 79, 95, 100, 108, 121, 146, 146, 146, 158, 163, 168, 168, 181, 181], 79) := by decide +kernel
theorem dX9_counted_80 : decode cX9_counted 80 = .ok (.aload_n 0, 1) := by decide +kernel
theorem dX9_counted_81 : decode cX9_counted 81 = .ok (.getfield 7, 3) := by decide +kernel
theorem dX9_counted_84 : decode cX9_counted 84 = .ok (.iload_n 1, 1) := by decide +kernel
theorem dX9_counted_85 : decode cX9_counted 85 = .ok (.iaload, 1) := by decide +kernel
theorem dX9_counted_86 : decode cX9_counted 86 = .ok (.ireturn, 1) := by decide +kernel
theorem dX9_counted_87 : decode cX9_counted 87 = .ok (.iconst 1, 1) := by decide +kernel
theorem dX9_counted_88 : decode cX9_counted 88 = .ok (.aload_n 0, 1) := by decide +kernel
theorem dX9_counted_89 : decode cX9_counted 89 = .ok (.getfield 7, 3) := by decide +kernel
theorem dX9_counted_92 : decode cX9_counted 92 = .ok (.iconst 1, 1) := by decide +kernel
theorem dX9_counted_93 : decode cX9_counted 93 = .ok (.iaload, 1) := by decide +kernel
theorem dX9_counted_94 : decode cX9_counted 94 = .ok (.isub, 1) := by decide +kernel
theorem dX9_counted_95 : decode cX9_counted 95 = .ok (.ireturn, 1) := by decide +kernel
theorem dX9_counted_96 : decode cX9_counted 96 = .ok (.aload_n 0, 1) := by decide +kernel
theorem dX9_counted_97 : decode cX9_counted 97 = .ok (.invokevirtual 73, 3) := by decide +kernel
theorem dX9_counted_100 : decode cX9_counted 100 = .ok (.ireturn, 1) := by decide +kernel
theorem dX9_counted_101 : decode cX9_counted 101 = .ok (.aload_n 0, 1) := by decide +kernel
theorem dX9_counted_102 : decode cX9_counted 102 = .ok (.getfield 7, 3) := by decide +kernel
theorem dX9_counted_105 : decode cX9_counted 105 = .ok (.bipush 11, 2) := by decide +kernel
theorem dX9_counted_107 : decode cX9_counted 107 = .ok (.iaload, 1) := by decide +kernel
theorem dX9_counted_108 : decode cX9_counted 108 = .ok (.ireturn, 1) := by decide +kernel
theorem dX9_counted_109 : decode cX9_counted 109 = .ok (.aload_n 0, 1) := by decide +kernel
theorem dX9_counted_110 : decode cX9_counted 110 = .ok (.invokevirtual 77, 3) := by decide +kernel
theorem dX9_counted_113 : decode cX9_counted 113 = .ok (.ifCond .eq 7, 3) := by decide +kernel
theorem dX9_counted_116 : decode cX9_counted 116 = .ok (.iconst 1, 1) := by decide +kernel
theorem dX9_counted_117 : decode cX9_counted 117 = .ok (.goto 4, 3) := by decide +kernel
theorem dX9_counted_120 : decode cX9_counted 120 = .ok (.iconst 0, 1) := by decide +kernel
theorem dX9_counted_121 : decode cX9_counted 121 = .ok (.ireturn, 1) := by decide +kernel
theorem dX9_counted_122 : decode cX9_counted 122 = .ok (.aload_n 0, 1) := by decide +kernel
theorem dX9_counted_123 : decode cX9_counted 123 = .ok (.invokevirtual 77, 3) := by decide +kernel
theorem dX9_counted_126 : decode cX9_counted 126 = .ok (.ifCond .eq 18, 3) := by decide +kernel
theorem dX9_counted_129 : decode cX9_counted 129 = .ok (.aload_n 0, 1) := by decide +kernel
theorem dX9_counted_130 : decode cX9_counted 130 = .ok (.iconst 5, 1) := by decide +kernel
theorem dX9_counted_131 : decode cX9_counted 131 = .ok (.invokevirtual 61, 3) := by decide +kernel
theorem dX9_counted_134 : decode cX9_counted 134 = .ok (.aload_n 0, 1) := by decide +kernel
theorem dX9_counted_135 : decode cX9_counted 135 = .ok (.bipush 6, 2) := by decide +kernel
theorem dX9_counted_137 : decode cX9_counted 137 = .ok (.invokevirtual 61, 3) := by decide +kernel
theorem dX9_counted_140 : decode cX9_counted 140 = .ok (.iadd, 1) := by decide +kernel
theorem dX9_counted_141 : decode cX9_counted 141 = .ok (.goto 5, 3) := by decide +kernel
theorem dX9_counted_144 : decode cX9_counted 144 = .ok (.bipush (-4), 2) := by decide +kernel
theorem dX9_counted_146 : decode cX9_counted 146 = .ok (.ireturn, 1) := by decide +kernel
theorem dX9_counted_147 : decode cX9_counted 147 = .ok (.aload_n 0, 1) := by decide +kernel
theorem dX9_counted_148 : decode cX9_counted 148 = .ok (.getfield 7, 3) := by decide +kernel
theorem dX9_counted_151 : decode cX9_counted 151 = .ok (.iconst 3, 1) := by decide +kernel
theorem dX9_counted_152 : decode cX9_counted 152 = .ok (.iload_n 1, 1) := by decide +kernel
theorem dX9_counted_153 : decode cX9_counted 153 = .ok (.iadd, 1) := by decide +kernel
theorem dX9_counted_154 : decode cX9_counted 154 = .ok (.bipush 7, 2) := by decide +kernel
theorem dX9_counted_156 : decode cX9_counted 156 = .ok (.isub, 1) := by decide +kernel
theorem dX9_counted_157 : decode cX9_counted 157 = .ok (.iaload, 1) := by decide +kernel
theorem dX9_counted_158 : decode cX9_counted 158 = .ok (.ireturn, 1) := by decide +kernel
theorem dX9_counted_159 : decode cX9_counted 159 = .ok (.aload_n 0, 1) := by decide +kernel
theorem dX9_counted_160 : decode cX9_counted 160 = .ok (.invokevirtual 165, 3) := by decide +kernel
theorem dX9_counted_163 : decode cX9_counted 163 = .ok (.ireturn, 1) := by decide +kernel
theorem dX9_counted_164 : decode cX9_counted 164 = .ok (.aload_n 0, 1) := by decide +kernel
theorem dX9_counted_165 : decode cX9_counted 165 = .ok (.invokevirtual 168, 3) := by decide +kernel
theorem dX9_counted_168 : decode cX9_counted 168 = .ok (.ireturn, 1) := by decide +kernel
theorem dX9_counted_169 : decode cX9_counted 169 = .ok (.aload_n 0, 1) := by decide +kernel
theorem dX9_counted_170 : decode cX9_counted 170 = .ok (.getfield 7, 3) := by decide +kernel
theorem dX9_counted_173 : decode cX9_counted 173 = .ok (.bipush 6, 2) := by decide +kernel
theorem dX9_counted_175 : decode cX9_counted 175 = .ok (.iload_n 1, 1) := by decide +kernel
theorem dX9_counted_176 : decode cX9_counted 176 = .ok (.iadd, 1) := by decide +kernel
theorem dX9_counted_177 : decode cX9_counted 177 = .ok (.bipush 12, 2) := by decide +kernel
theorem dX9_counted_179 : decode cX9_counted 179 = .ok (.isub, 1) := by decide +kernel
theorem dX9_counted_180 : decode cX9_counted 180 = .ok (.iaload, 1) := by decide +kernel
theorem dX9_counted_181 : decode cX9_counted 181 = .ok (.ireturn, 1) := by decide +kernel
theorem dX9_counted_182 : decode cX9_counted 182 = .ok (.aload_n 0, 1) := by decide +kernel
theorem dX9_counted_183 : decode cX9_counted 183 = .ok (.getfield 7, 3) := by decide +kernel
theorem dX9_counted_186 : decode cX9_counted 186 = .ok (.bipush 8, 2) := by decide +kernel
theorem dX9_counted_188 : decode cX9_counted 188 = .ok (.iload_n 1, 1) := by decide +kernel
theorem dX9_counted_189 : decode cX9_counted 189 = .ok (.iadd, 1) := by decide +kernel
theorem dX9_counted_190 : decode cX9_counted 190 = .ok (.bipush 14, 2) := by decide +kernel
theorem dX9_counted_192 : decode cX9_counted 192 = .ok (.isub, 1) := by decide +kernel
theorem dX9_counted_193 : decode cX9_counted 193 = .ok (.iaload, 1) := by decide +kernel
theorem dX9_counted_194 : decode cX9_counted 194 = .ok (.ireturn, 1) := by decide +kernel
theorem dX9_counted_195 : decode cX9_counted 195 = .ok (.iload_n 1, 1) := by decide +kernel
theorem dX9_counted_196 : decode cX9_counted 196 = .ok (.bipush 16, 2) := by decide +kernel
theorem dX9_counted_198 : decode cX9_counted 198 = .ok (.if_icmp .ne 10, 3) := by decide +kernel
theorem dX9_counted_201 : decode cX9_counted 201 = .ok (.aload_n 0, 1) := by decide +kernel
theorem dX9_counted_202 : decode cX9_counted 202 = .ok (.getfield 28, 3) := by decide +kernel
theorem dX9_counted_205 : decode cX9_counted 205 = .ok (.goto 7, 3) := by decide +kernel
theorem dX9_counted_208 : decode cX9_counted 208 = .ok (.aload_n 0, 1) := by decide +kernel
theorem dX9_counted_209 : decode cX9_counted 209 = .ok (.getfield 171, 3) := by decide +kernel
theorem dX9_counted_212 : decode cX9_counted 212 = .ok (.ireturn, 1) := by decide +kernel
theorem dX9_count_0 : decode cX9_count 0 = .ok (.iload_n 1, 1) := by decide +kernel
theorem dX9_count_1 : decode cX9_count 1 = .ok (.iconst 0, 1) := by decide +kernel
theorem dX9_count_2 : decode cX9_count 2 = .ok (.bipush 17, 2) := by decide +kernel
theorem dX9_count_4 : decode cX9_count 4 = .ok (.invokestatic 32, 3) := by decide +kernel
theorem dX9_count_7 : decode cX9_count 7 = .ok (.ifCond .eq 9, 3) := by decide +kernel
theorem dX9_count_10 : decode cX9_count 10 = .ok (.aload_n 0, 1) := by decide +kernel
theorem dX9_count_11 : decode cX9_count 11 = .ok (.iload_n 1, 1) := by decide +kernel
theorem dX9_count_12 : decode cX9_count 12 = .ok (.invokevirtual 174, 3) := by decide +kernel
theorem dX9_count_15 : decode cX9_count 15 = .ok (.ireturn, 1) := by decide +kernel
theorem dX9_count_16 : decode cX9_count 16 = .ok (.iload_n 1, 1) := by decide +kernel
theorem dX9_count_17 : decode cX9_count 17 = .ok (.bipush 20, 2) := by decide +kernel
theorem dX9_count_19 : decode cX9_count 19 = .ok (.bipush 23, 2) := by decide +kernel
theorem dX9_count_21 : decode cX9_count 21 = .ok (.invokestatic 32, 3) := by decide +kernel
theorem dX9_count_24 : decode cX9_count 24 = .ok (.ifCond .eq 18, 3) := by decide +kernel
theorem dX9_count_27 : decode cX9_count 27 = .ok (.aload_n 0, 1) := by decide +kernel
theorem dX9_count_28 : decode cX9_count 28 = .ok (.getfield 7, 3) := by decide +kernel
theorem dX9_count_31 : decode cX9_count 31 = .ok (.bipush 20, 2) := by decide +kernel
theorem dX9_count_33 : decode cX9_count 33 = .ok (.iload_n 1, 1) := by decide +kernel
theorem dX9_count_34 : decode cX9_count 34 = .ok (.iadd, 1) := by decide +kernel
theorem dX9_count_35 : decode cX9_count 35 = .ok (.bipush 20, 2) := by decide +kernel
theorem dX9_count_37 : decode cX9_count 37 = .ok (.isub, 1) := by decide +kernel
theorem dX9_count_38 : decode cX9_count 38 = .ok (.iaload, 1) := by decide +kernel
theorem dX9_count_39 : decode cX9_count 39 = .ok (.goto 30, 3) := by decide +kernel
theorem dX9_count_42 : decode cX9_count 42 = .ok (.iload_n 1, 1) := by decide +kernel
theorem dX9_count_43 : decode cX9_count 43 = .ok (.bipush 30, 2) := by decide +kernel
theorem dX9_count_45 : decode cX9_count 45 = .ok (.bipush 37, 2) := by decide +kernel
theorem dX9_count_47 : decode cX9_count 47 = .ok (.invokestatic 32, 3) := by decide +kernel
theorem dX9_count_50 : decode cX9_count 50 = .ok (.ifCond .eq 18, 3) := by decide +kernel
theorem dX9_count_53 : decode cX9_count 53 = .ok (.aload_n 0, 1) := by decide +kernel
theorem dX9_count_54 : decode cX9_count 54 = .ok (.getfield 7, 3) := by decide +kernel
theorem dX9_count_57 : decode cX9_count 57 = .ok (.bipush 12, 2) := by decide +kernel
theorem dX9_count_59 : decode cX9_count 59 = .ok (.iload_n 1, 1) := by decide +kernel
theorem dX9_count_60 : decode cX9_count 60 = .ok (.iadd, 1) := by decide +kernel
theorem dX9_count_61 : decode cX9_count 61 = .ok (.bipush 30, 2) := by decide +kernel
theorem dX9_count_63 : decode cX9_count 63 = .ok (.isub, 1) := by decide +kernel
theorem dX9_count_64 : decode cX9_count 64 = .ok (.iaload, 1) := by decide +kernel
theorem dX9_count_65 : decode cX9_count 65 = .ok (.goto 4, 3) := by decide +kernel
theorem dX9_count_68 : decode cX9_count 68 = .ok (.iconst (-1), 1) := by decide +kernel
theorem dX9_count_69 : decode cX9_count 69 = .ok (.ireturn, 1) := by decide +kernel
theorem dX9_wouldLose_0 : decode cX9_wouldLose 0 = .ok (.iload_n 1, 1) := by decide +kernel
theorem dX9_wouldLose_1 : decode cX9_wouldLose 1 = .ok (.iconst 0, 1) := by decide +kernel
theorem dX9_wouldLose_2 : decode cX9_wouldLose 2 = .ok (.sipush 200, 3) := by decide +kernel
theorem dX9_wouldLose_5 : decode cX9_wouldLose 5 = .ok (.invokestatic 32, 3) := by decide +kernel
theorem dX9_wouldLose_8 : decode cX9_wouldLose 8 = .ok (.ifCond .ne 5, 3) := by decide +kernel
theorem dX9_wouldLose_11 : decode cX9_wouldLose 11 = .ok (.iconst (-1), 1) := by decide +kernel
theorem dX9_wouldLose_12 : decode cX9_wouldLose 12 = .ok (.ireturn, 1) := by decide +kernel
theorem dX9_wouldLose_13 : decode cX9_wouldLose 13 = .ok (.aload_n 0, 1) := by decide +kernel
theorem dX9_wouldLose_14 : decode cX9_wouldLose 14 = .ok (.invokevirtual 107, 3) := by decide +kernel
theorem dX9_wouldLose_17 : decode cX9_wouldLose 17 = .ok (.ifCond .eq 6, 3) := by decide +kernel
theorem dX9_wouldLose_20 : decode cX9_wouldLose 20 = .ok (.bipush (-2), 2) := by decide +kernel
theorem dX9_wouldLose_22 : decode cX9_wouldLose 22 = .ok (.ireturn, 1) := by decide +kernel
theorem dX9_wouldLose_23 : decode cX9_wouldLose 23 = .ok (.aload_n 0, 1) := by decide +kernel
theorem dX9_wouldLose_24 : decode cX9_wouldLose 24 = .ok (.invokevirtual 131, 3) := by decide +kernel
theorem dX9_wouldLose_27 : decode cX9_wouldLose 27 = .ok (.aload_n 0, 1) := by decide +kernel
theorem dX9_wouldLose_28 : decode cX9_wouldLose 28 = .ok (.iload_n 1, 1) := by decide +kernel
theorem dX9_wouldLose_29 : decode cX9_wouldLose 29 = .ok (.invokevirtual 122, 3) := by decide +kernel
theorem dX9_wouldLose_32 : decode cX9_wouldLose 32 = .ok (.istore_n 2, 1) := by decide +kernel
theorem dX9_wouldLose_33 : decode cX9_wouldLose 33 = .ok (.aload_n 0, 1) := by decide +kernel
theorem dX9_wouldLose_34 : decode cX9_wouldLose 34 = .ok (.invokevirtual 110, 3) := by decide +kernel
theorem dX9_wouldLose_37 : decode cX9_wouldLose 37 = .ok (.istore_n 3, 1) := by decide +kernel
theorem dX9_wouldLose_38 : decode cX9_wouldLose 38 = .ok (.aload_n 0, 1) := by decide +kernel
theorem dX9_wouldLose_39 : decode cX9_wouldLose 39 = .ok (.invokevirtual 25, 3) := by decide +kernel
theorem dX9_wouldLose_42 : decode cX9_wouldLose 42 = .ok (.iload_n 3, 1) := by decide +kernel
theorem dX9_wouldLose_43 : decode cX9_wouldLose 43 = .ok (.ireturn, 1) := by decide +kernel
theorem dX9_doneIn_0 : decode cX9_doneIn 0 = .ok (.aload_n 0, 1) := by decide +kernel
theorem dX9_doneIn_1 : decode cX9_doneIn 1 = .ok (.invokevirtual 107, 3) := by decide +kernel
theorem dX9_doneIn_4 : decode cX9_doneIn 4 = .ok (.ifCond .eq 6, 3) := by decide +kernel
theorem dX9_doneIn_7 : decode cX9_doneIn 7 = .ok (.bipush (-2), 2) := by decide +kernel
theorem dX9_doneIn_9 : decode cX9_doneIn 9 = .ok (.ireturn, 1) := by decide +kernel
theorem dX9_doneIn_10 : decode cX9_doneIn 10 = .ok (.aload_n 0, 1) := by decide +kernel
theorem dX9_doneIn_11 : decode cX9_doneIn 11 = .ok (.invokevirtual 131, 3) := by decide +kernel
theorem dX9_doneIn_14 : decode cX9_doneIn 14 = .ok (.iconst 0, 1) := by decide +kernel
theorem dX9_doneIn_15 : decode cX9_doneIn 15 = .ok (.istore_n 1, 1) := by decide +kernel
theorem dX9_doneIn_16 : decode cX9_doneIn 16 = .ok (.aload_n 0, 1) := by decide +kernel
theorem dX9_doneIn_17 : decode cX9_doneIn 17 = .ok (.invokevirtual 77, 3) := by decide +kernel
theorem dX9_doneIn_20 : decode cX9_doneIn 20 = .ok (.ifCond .ne 22, 3) := by decide +kernel
theorem dX9_doneIn_23 : decode cX9_doneIn 23 = .ok (.aload_n 0, 1) := by decide +kernel
theorem dX9_doneIn_24 : decode cX9_doneIn 24 = .ok (.getfield 7, 3) := by decide +kernel
theorem dX9_doneIn_27 : decode cX9_doneIn 27 = .ok (.bipush 11, 2) := by decide +kernel
theorem dX9_doneIn_29 : decode cX9_doneIn 29 = .ok (.iaload, 1) := by decide +kernel
theorem dX9_doneIn_30 : decode cX9_doneIn 30 = .ok (.ifCond .le 22, 3) := by decide +kernel
theorem dX9_doneIn_33 : decode cX9_doneIn 33 = .ok (.aload_n 0, 1) := by decide +kernel
theorem dX9_doneIn_34 : decode cX9_doneIn 34 = .ok (.invokevirtual 73, 3) := by decide +kernel
theorem dX9_doneIn_37 : decode cX9_doneIn 37 = .ok (.bipush 16, 2) := by decide +kernel
theorem dX9_doneIn_39 : decode cX9_doneIn 39 = .ok (.if_icmp .ge 13, 3) := by decide +kernel
theorem dX9_doneIn_42 : decode cX9_doneIn 42 = .ok (.aload_n 0, 1) := by decide +kernel
theorem dX9_doneIn_43 : decode cX9_doneIn 43 = .ok (.invokevirtual 101, 3) := by decide +kernel
theorem dX9_doneIn_46 : decode cX9_doneIn 46 = .ok (.iinc 1 1, 3) := by decide +kernel
theorem dX9_doneIn_49 : decode cX9_doneIn 49 = .ok (.goto (-33), 3) := by decide +kernel
theorem dX9_doneIn_52 : decode cX9_doneIn 52 = .ok (.aload_n 0, 1) := by decide +kernel
theorem dX9_doneIn_53 : decode cX9_doneIn 53 = .ok (.getfield 7, 3) := by decide +kernel
theorem dX9_doneIn_56 : decode cX9_doneIn 56 = .ok (.bipush 11, 2) := by decide +kernel
theorem dX9_doneIn_58 : decode cX9_doneIn 58 = .ok (.iaload, 1) := by decide +kernel
theorem dX9_doneIn_59 : decode cX9_doneIn 59 = .ok (.ifCond .le 8, 3) := by decide +kernel
theorem dX9_doneIn_62 : decode cX9_doneIn 62 = .ok (.bipush (-4), 2) := by decide +kernel
theorem dX9_doneIn_64 : decode cX9_doneIn 64 = .ok (.goto 4, 3) := by decide +kernel
theorem dX9_doneIn_67 : decode cX9_doneIn 67 = .ok (.iload_n 1, 1) := by decide +kernel
theorem dX9_doneIn_68 : decode cX9_doneIn 68 = .ok (.istore_n 2, 1) := by decide +kernel
theorem dX9_doneIn_69 : decode cX9_doneIn 69 = .ok (.aload_n 0, 1) := by decide +kernel
theorem dX9_doneIn_70 : decode cX9_doneIn 70 = .ok (.invokevirtual 25, 3) := by decide +kernel
theorem dX9_doneIn_73 : decode cX9_doneIn 73 = .ok (.iload_n 2, 1) := by decide +kernel
theorem dX9_doneIn_74 : decode cX9_doneIn 74 = .ok (.ireturn, 1) := by decide +kernel
theorem dX9_undo_0 : decode cX9_undo 0 = .ok (.aload_n 0, 1) := by decide +kernel
theorem dX9_undo_1 : decode cX9_undo 1 = .ok (.getfield 28, 3) := by decide +kernel
theorem dX9_undo_4 : decode cX9_undo 4 = .ok (.ifCond .ne 6, 3) := by decide +kernel
theorem dX9_undo_7 : decode cX9_undo 7 = .ok (.bipush (-2), 2) := by decide +kernel
theorem dX9_undo_9 : decode cX9_undo 9 = .ok (.ireturn, 1) := by decide +kernel
theorem dX9_undo_10 : decode cX9_undo 10 = .ok (.aload_n 0, 1) := by decide +kernel
theorem dX9_undo_11 : decode cX9_undo 11 = .ok (.dup, 1) := by decide +kernel
theorem dX9_undo_12 : decode cX9_undo 12 = .ok (.getfield 28, 3) := by decide +kernel
theorem dX9_undo_15 : decode cX9_undo 15 = .ok (.iconst 1, 1) := by decide +kernel
theorem dX9_undo_16 : decode cX9_undo 16 = .ok (.isub, 1) := by decide +kernel
theorem dX9_undo_17 : decode cX9_undo 17 = .ok (.putfield 28, 3) := by decide +kernel
theorem dX9_undo_20 : decode cX9_undo 20 = .ok (.iconst 0, 1) := by decide +kernel
theorem dX9_undo_21 : decode cX9_undo 21 = .ok (.istore_n 1, 1) := by decide +kernel
theorem dX9_undo_22 : decode cX9_undo 22 = .ok (.iload_n 1, 1) := by decide +kernel
theorem dX9_undo_23 : decode cX9_undo 23 = .ok (.sipush 256, 3) := by decide +kernel
theorem dX9_undo_26 : decode cX9_undo 26 = .ok (.if_icmp .ge 30, 3) := by decide +kernel
theorem dX9_undo_29 : decode cX9_undo 29 = .ok (.aload_n 0, 1) := by decide +kernel
theorem dX9_undo_30 : decode cX9_undo 30 = .ok (.getfield 7, 3) := by decide +kernel
theorem dX9_undo_33 : decode cX9_undo 33 = .ok (.iload_n 1, 1) := by decide +kernel
theorem dX9_undo_34 : decode cX9_undo 34 = .ok (.aload_n 0, 1) := by decide +kernel
theorem dX9_undo_35 : decode cX9_undo 35 = .ok (.getfield 16, 3) := by decide +kernel
theorem dX9_undo_38 : decode cX9_undo 38 = .ok (.sipush 256, 3) := by decide +kernel
theorem dX9_undo_41 : decode cX9_undo 41 = .ok (.aload_n 0, 1) := by decide +kernel
theorem dX9_undo_42 : decode cX9_undo 42 = .ok (.getfield 28, 3) := by decide +kernel
theorem dX9_undo_45 : decode cX9_undo 45 = .ok (.imul, 1) := by decide +kernel
theorem dX9_undo_46 : decode cX9_undo 46 = .ok (.iload_n 1, 1) := by decide +kernel
theorem dX9_undo_47 : decode cX9_undo 47 = .ok (.iadd, 1) := by decide +kernel
theorem dX9_undo_48 : decode cX9_undo 48 = .ok (.iaload, 1) := by decide +kernel
theorem dX9_undo_49 : decode cX9_undo 49 = .ok (.iastore, 1) := by decide +kernel
theorem dX9_undo_50 : decode cX9_undo 50 = .ok (.iinc 1 1, 3) := by decide +kernel
theorem dX9_undo_53 : decode cX9_undo 53 = .ok (.goto (-31), 3) := by decide +kernel
theorem dX9_undo_56 : decode cX9_undo 56 = .ok (.aload_n 0, 1) := by decide +kernel
theorem dX9_undo_57 : decode cX9_undo 57 = .ok (.getfield 28, 3) := by decide +kernel
theorem dX9_undo_60 : decode cX9_undo 60 = .ok (.ireturn, 1) := by decide +kernel
theorem dX9_type_0 : decode cX9_type 0 = .ok (.iload_n 1, 1) := by decide +kernel
theorem dX9_type_1 : decode cX9_type 1 = .ok (.bipush 32, 2) := by decide +kernel
theorem dX9_type_3 : decode cX9_type 3 = .ok (.bipush 126, 2) := by decide +kernel
theorem dX9_type_5 : decode cX9_type 5 = .ok (.invokestatic 32, 3) := by decide +kernel
theorem dX9_type_8 : decode cX9_type 8 = .ok (.ifCond .ne 5, 3) := by decide +kernel
theorem dX9_type_11 : decode cX9_type 11 = .ok (.iconst (-1), 1) := by decide +kernel
theorem dX9_type_12 : decode cX9_type 12 = .ok (.ireturn, 1) := by decide +kernel
theorem dX9_type_13 : decode cX9_type 13 = .ok (.aload_n 0, 1) := by decide +kernel
theorem dX9_type_14 : decode cX9_type 14 = .ok (.getfield 171, 3) := by decide +kernel
theorem dX9_type_17 : decode cX9_type 17 = .ok (.bipush 60, 2) := by decide +kernel
theorem dX9_type_19 : decode cX9_type 19 = .ok (.if_icmp .ne 6, 3) := by decide +kernel
theorem dX9_type_22 : decode cX9_type 22 = .ok (.bipush (-3), 2) := by decide +kernel
theorem dX9_type_24 : decode cX9_type 24 = .ok (.ireturn, 1) := by decide +kernel
theorem dX9_type_25 : decode cX9_type 25 = .ok (.aload_n 0, 1) := by decide +kernel
theorem dX9_type_26 : decode cX9_type 26 = .ok (.getfield 19, 3) := by decide +kernel
theorem dX9_type_29 : decode cX9_type 29 = .ok (.aload_n 0, 1) := by decide +kernel
theorem dX9_type_30 : decode cX9_type 30 = .ok (.getfield 171, 3) := by decide +kernel
theorem dX9_type_33 : decode cX9_type 33 = .ok (.iload_n 1, 1) := by decide +kernel
theorem dX9_type_34 : decode cX9_type 34 = .ok (.iastore, 1) := by decide +kernel
theorem dX9_type_35 : decode cX9_type 35 = .ok (.aload_n 0, 1) := by decide +kernel
theorem dX9_type_36 : decode cX9_type 36 = .ok (.dup, 1) := by decide +kernel
theorem dX9_type_37 : decode cX9_type 37 = .ok (.getfield 171, 3) := by decide +kernel
theorem dX9_type_40 : decode cX9_type 40 = .ok (.iconst 1, 1) := by decide +kernel
theorem dX9_type_41 : decode cX9_type 41 = .ok (.iadd, 1) := by decide +kernel
theorem dX9_type_42 : decode cX9_type 42 = .ok (.putfield 171, 3) := by decide +kernel
theorem dX9_type_45 : decode cX9_type 45 = .ok (.aload_n 0, 1) := by decide +kernel
theorem dX9_type_46 : decode cX9_type 46 = .ok (.getfield 171, 3) := by decide +kernel
theorem dX9_type_49 : decode cX9_type 49 = .ok (.ireturn, 1) := by decide +kernel
theorem dX9_clearText_0 : decode cX9_clearText 0 = .ok (.aload_n 0, 1) := by decide +kernel
theorem dX9_clearText_1 : decode cX9_clearText 1 = .ok (.getfield 171, 3) := by decide +kernel
theorem dX9_clearText_4 : decode cX9_clearText 4 = .ok (.istore_n 1, 1) := by decide +kernel
theorem dX9_clearText_5 : decode cX9_clearText 5 = .ok (.aload_n 0, 1) := by decide +kernel
theorem dX9_clearText_6 : decode cX9_clearText 6 = .ok (.iconst 0, 1) := by decide +kernel
theorem dX9_clearText_7 : decode cX9_clearText 7 = .ok (.putfield 171, 3) := by decide +kernel
theorem dX9_clearText_10 : decode cX9_clearText 10 = .ok (.iload_n 1, 1) := by decide +kernel
theorem dX9_clearText_11 : decode cX9_clearText 11 = .ok (.ireturn, 1) := by decide +kernel
theorem dX9_here_0 : decode cX9_here 0 = .ok (.aload_n 0, 1) := by decide +kernel
theorem dX9_here_1 : decode cX9_here 1 = .ok (.getfield 177, 3) := by decide +kernel
theorem dX9_here_4 : decode cX9_here 4 = .ok (.aload_n 0, 1) := by decide +kernel
theorem dX9_here_5 : decode cX9_here 5 = .ok (.getfield 171, 3) := by decide +kernel
theorem dX9_here_8 : decode cX9_here 8 = .ok (.if_icmp .ge 15, 3) := by decide +kernel
theorem dX9_here_11 : decode cX9_here 11 = .ok (.aload_n 0, 1) := by decide +kernel
theorem dX9_here_12 : decode cX9_here 12 = .ok (.getfield 19, 3) := by decide +kernel
theorem dX9_here_15 : decode cX9_here 15 = .ok (.aload_n 0, 1) := by decide +kernel
theorem dX9_here_16 : decode cX9_here 16 = .ok (.getfield 177, 3) := by decide +kernel
theorem dX9_here_19 : decode cX9_here 19 = .ok (.iaload, 1) := by decide +kernel
theorem dX9_here_20 : decode cX9_here 20 = .ok (.goto 4, 3) := by decide +kernel
theorem dX9_here_23 : decode cX9_here 23 = .ok (.iconst (-1), 1) := by decide +kernel
theorem dX9_here_24 : decode cX9_here 24 = .ok (.ireturn, 1) := by decide +kernel
theorem dX9_isDigit_0 : decode cX9_isDigit 0 = .ok (.aload_n 0, 1) := by decide +kernel
theorem dX9_isDigit_1 : decode cX9_isDigit 1 = .ok (.invokevirtual 180, 3) := by decide +kernel
theorem dX9_isDigit_4 : decode cX9_isDigit 4 = .ok (.bipush 48, 2) := by decide +kernel
theorem dX9_isDigit_6 : decode cX9_isDigit 6 = .ok (.bipush 57, 2) := by decide +kernel
theorem dX9_isDigit_8 : decode cX9_isDigit 8 = .ok (.invokestatic 32, 3) := by decide +kernel
theorem dX9_isDigit_11 : decode cX9_isDigit 11 = .ok (.ireturn, 1) := by decide +kernel
theorem dX9_takesSign_0 : decode cX9_takesSign 0 = .ok (.aload_n 0, 1) := by decide +kernel
theorem dX9_takesSign_1 : decode cX9_takesSign 1 = .ok (.aload_n 0, 1) := by decide +kernel
theorem dX9_takesSign_2 : decode cX9_takesSign 2 = .ok (.getfield 183, 3) := by decide +kernel
theorem dX9_takesSign_5 : decode cX9_takesSign 5 = .ok (.ifCond .eq 15, 3) := by decide +kernel
theorem dX9_takesSign_8 : decode cX9_takesSign 8 = .ok (.aload_n 0, 1) := by decide +kernel
theorem dX9_takesSign_9 : decode cX9_takesSign 9 = .ok (.invokevirtual 180, 3) := by decide +kernel
theorem dX9_takesSign_12 : decode cX9_takesSign 12 = .ok (.iload_n 1, 1) := by decide +kernel
theorem dX9_takesSign_13 : decode cX9_takesSign 13 = .ok (.if_icmp .ne 7, 3) := by decide +kernel
theorem dX9_takesSign_16 : decode cX9_takesSign 16 = .ok (.iconst 1, 1) := by decide +kernel
theorem dX9_takesSign_17 : decode cX9_takesSign 17 = .ok (.goto 4, 3) := by decide +kernel
theorem dX9_takesSign_20 : decode cX9_takesSign 20 = .ok (.iconst 0, 1) := by decide +kernel
theorem dX9_takesSign_21 : decode cX9_takesSign 21 = .ok (.putfield 183, 3) := by decide +kernel
theorem dX9_takesSign_24 : decode cX9_takesSign 24 = .ok (.aload_n 0, 1) := by decide +kernel
theorem dX9_takesSign_25 : decode cX9_takesSign 25 = .ok (.dup, 1) := by decide +kernel
theorem dX9_takesSign_26 : decode cX9_takesSign 26 = .ok (.getfield 177, 3) := by decide +kernel
theorem dX9_takesSign_29 : decode cX9_takesSign 29 = .ok (.aload_n 0, 1) := by decide +kernel
theorem dX9_takesSign_30 : decode cX9_takesSign 30 = .ok (.getfield 183, 3) := by decide +kernel
theorem dX9_takesSign_33 : decode cX9_takesSign 33 = .ok (.ifCond .eq 7, 3) := by decide +kernel
theorem dX9_takesSign_36 : decode cX9_takesSign 36 = .ok (.iconst 1, 1) := by decide +kernel
theorem dX9_takesSign_37 : decode cX9_takesSign 37 = .ok (.goto 4, 3) := by decide +kernel
theorem dX9_takesSign_40 : decode cX9_takesSign 40 = .ok (.iconst 0, 1) := by decide +kernel
theorem dX9_takesSign_41 : decode cX9_takesSign 41 = .ok (.iadd, 1) := by decide +kernel
theorem dX9_takesSign_42 : decode cX9_takesSign 42 = .ok (.putfield 177, 3) := by decide +kernel
theorem dX9_takesSign_45 : decode cX9_takesSign 45 = .ok (.return_, 1) := by decide +kernel
theorem dX9_number_0 : decode cX9_number 0 = .ok (.aload_n 0, 1) := by decide +kernel
theorem dX9_number_1 : decode cX9_number 1 = .ok (.aload_n 0, 1) := by decide +kernel
theorem dX9_number_2 : decode cX9_number 2 = .ok (.getfield 183, 3) := by decide +kernel
theorem dX9_number_5 : decode cX9_number 5 = .ok (.ifCond .eq 14, 3) := by decide +kernel
theorem dX9_number_8 : decode cX9_number 8 = .ok (.aload_n 0, 1) := by decide +kernel
theorem dX9_number_9 : decode cX9_number 9 = .ok (.invokevirtual 187, 3) := by decide +kernel
theorem dX9_number_12 : decode cX9_number 12 = .ok (.ifCond .eq 7, 3) := by decide +kernel
theorem dX9_number_15 : decode cX9_number 15 = .ok (.iconst 1, 1) := by decide +kernel
theorem dX9_number_16 : decode cX9_number 16 = .ok (.goto 4, 3) := by decide +kernel
theorem dX9_number_19 : decode cX9_number 19 = .ok (.iconst 0, 1) := by decide +kernel
theorem dX9_number_20 : decode cX9_number 20 = .ok (.putfield 183, 3) := by decide +kernel
theorem dX9_number_23 : decode cX9_number 23 = .ok (.iconst 0, 1) := by decide +kernel
theorem dX9_number_24 : decode cX9_number 24 = .ok (.istore_n 1, 1) := by decide +kernel
theorem dX9_number_25 : decode cX9_number 25 = .ok (.iconst 0, 1) := by decide +kernel
theorem dX9_number_26 : decode cX9_number 26 = .ok (.istore_n 2, 1) := by decide +kernel
theorem dX9_number_27 : decode cX9_number 27 = .ok (.iload_n 2, 1) := by decide +kernel
theorem dX9_number_28 : decode cX9_number 28 = .ok (.iconst 3, 1) := by decide +kernel
theorem dX9_number_29 : decode cX9_number 29 = .ok (.if_icmp .ge 46, 3) := by decide +kernel
theorem dX9_number_32 : decode cX9_number 32 = .ok (.aload_n 0, 1) := by decide +kernel
theorem dX9_number_33 : decode cX9_number 33 = .ok (.getfield 183, 3) := by decide +kernel
theorem dX9_number_36 : decode cX9_number 36 = .ok (.ifCond .eq 39, 3) := by decide +kernel
theorem dX9_number_39 : decode cX9_number 39 = .ok (.aload_n 0, 1) := by decide +kernel
theorem dX9_number_40 : decode cX9_number 40 = .ok (.invokevirtual 187, 3) := by decide +kernel
theorem dX9_number_43 : decode cX9_number 43 = .ok (.ifCond .eq 32, 3) := by decide +kernel
theorem dX9_number_46 : decode cX9_number 46 = .ok (.bipush 10, 2) := by decide +kernel
theorem dX9_number_48 : decode cX9_number 48 = .ok (.iload_n 1, 1) := by decide +kernel
theorem dX9_number_49 : decode cX9_number 49 = .ok (.imul, 1) := by decide +kernel
theorem dX9_number_50 : decode cX9_number 50 = .ok (.aload_n 0, 1) := by decide +kernel
theorem dX9_number_51 : decode cX9_number 51 = .ok (.invokevirtual 180, 3) := by decide +kernel
theorem dX9_number_54 : decode cX9_number 54 = .ok (.iadd, 1) := by decide +kernel
theorem dX9_number_55 : decode cX9_number 55 = .ok (.bipush 48, 2) := by decide +kernel
theorem dX9_number_57 : decode cX9_number 57 = .ok (.isub, 1) := by decide +kernel
theorem dX9_number_58 : decode cX9_number 58 = .ok (.istore_n 1, 1) := by decide +kernel
theorem dX9_number_59 : decode cX9_number 59 = .ok (.aload_n 0, 1) := by decide +kernel
theorem dX9_number_60 : decode cX9_number 60 = .ok (.dup, 1) := by decide +kernel
theorem dX9_number_61 : decode cX9_number 61 = .ok (.getfield 177, 3) := by decide +kernel
theorem dX9_number_64 : decode cX9_number 64 = .ok (.iconst 1, 1) := by decide +kernel
theorem dX9_number_65 : decode cX9_number 65 = .ok (.iadd, 1) := by decide +kernel
theorem dX9_number_66 : decode cX9_number 66 = .ok (.putfield 177, 3) := by decide +kernel
theorem dX9_number_69 : decode cX9_number 69 = .ok (.iinc 2 1, 3) := by decide +kernel
theorem dX9_number_72 : decode cX9_number 72 = .ok (.goto (-45), 3) := by decide +kernel
theorem dX9_number_75 : decode cX9_number 75 = .ok (.iload_n 1, 1) := by decide +kernel
theorem dX9_number_76 : decode cX9_number 76 = .ok (.ireturn, 1) := by decide +kernel
theorem dX9_hasTwo_0 : decode cX9_hasTwo 0 = .ok (.iload_n 0, 1) := by decide +kernel
theorem dX9_hasTwo_1 : decode cX9_hasTwo 1 = .ok (.bipush 119, 2) := by decide +kernel
theorem dX9_hasTwo_3 : decode cX9_hasTwo 3 = .ok (.if_icmp .eq 9, 3) := by decide +kernel
theorem dX9_hasTwo_6 : decode cX9_hasTwo 6 = .ok (.iload_n 0, 1) := by decide +kernel
theorem dX9_hasTwo_7 : decode cX9_hasTwo 7 = .ok (.bipush 117, 2) := by decide +kernel
theorem dX9_hasTwo_9 : decode cX9_hasTwo 9 = .ok (.if_icmp .ne 7, 3) := by decide +kernel
theorem dX9_hasTwo_12 : decode cX9_hasTwo 12 = .ok (.iconst 1, 1) := by decide +kernel
theorem dX9_hasTwo_13 : decode cX9_hasTwo 13 = .ok (.goto 4, 3) := by decide +kernel
theorem dX9_hasTwo_16 : decode cX9_hasTwo 16 = .ok (.iconst 0, 1) := by decide +kernel
theorem dX9_hasTwo_17 : decode cX9_hasTwo 17 = .ok (.ireturn, 1) := by decide +kernel
theorem dX9_hasOne_0 : decode cX9_hasOne 0 = .ok (.iload_n 0, 1) := by decide +kernel
theorem dX9_hasOne_1 : decode cX9_hasOne 1 = .ok (.bipush 116, 2) := by decide +kernel
theorem dX9_hasOne_3 : decode cX9_hasOne 3 = .ok (.if_icmp .eq 15, 3) := by decide +kernel
theorem dX9_hasOne_6 : decode cX9_hasOne 6 = .ok (.iload_n 0, 1) := by decide +kernel
theorem dX9_hasOne_7 : decode cX9_hasOne 7 = .ok (.bipush 99, 2) := by decide +kernel
theorem dX9_hasOne_9 : decode cX9_hasOne 9 = .ok (.if_icmp .eq 9, 3) := by decide +kernel
theorem dX9_hasOne_12 : decode cX9_hasOne 12 = .ok (.iload_n 0, 1) := by decide +kernel
theorem dX9_hasOne_13 : decode cX9_hasOne 13 = .ok (.bipush 101, 2) := by decide +kernel
theorem dX9_hasOne_15 : decode cX9_hasOne 15 = .ok (.if_icmp .ne 7, 3) := by decide +kernel
theorem dX9_hasOne_18 : decode cX9_hasOne 18 = .ok (.iconst 1, 1) := by decide +kernel
theorem dX9_hasOne_19 : decode cX9_hasOne 19 = .ok (.goto 4, 3) := by decide +kernel
theorem dX9_hasOne_22 : decode cX9_hasOne 22 = .ok (.iconst 0, 1) := by decide +kernel
theorem dX9_hasOne_23 : decode cX9_hasOne 23 = .ok (.ireturn, 1) := by decide +kernel
theorem dX9_called_0 : decode cX9_called 0 = .ok (.iload_n 1, 1) := by decide +kernel
theorem dX9_called_1 : decode cX9_called 1 = .ok (.tableswitch 146 99 120 #[140, 146, 146, 146, 146, 146, 146, 146, 146, 146, 146, 146, 130, 146, 146, 146, 135, 119, 111, 146, 103, 125], 103) := by decide +kernel
theorem dX9_called_104 : decode cX9_called 104 = .ok (.aload_n 0, 1) := by decide +kernel
theorem dX9_called_105 : decode cX9_called 105 = .ok (.iload_n 2, 1) := by decide +kernel
theorem dX9_called_106 : decode cX9_called 106 = .ok (.iload_n 3, 1) := by decide +kernel
theorem dX9_called_107 : decode cX9_called 107 = .ok (.iconst 0, 1) := by decide +kernel
theorem dX9_called_108 : decode cX9_called 108 = .ok (.invokevirtual 134, 3) := by decide +kernel
theorem dX9_called_111 : decode cX9_called 111 = .ok (.ireturn, 1) := by decide +kernel
theorem dX9_called_112 : decode cX9_called 112 = .ok (.aload_n 0, 1) := by decide +kernel
theorem dX9_called_113 : decode cX9_called 113 = .ok (.iload_n 2, 1) := by decide +kernel
theorem dX9_called_114 : decode cX9_called 114 = .ok (.iload_n 3, 1) := by decide +kernel
theorem dX9_called_115 : decode cX9_called 115 = .ok (.iconst 1, 1) := by decide +kernel
theorem dX9_called_116 : decode cX9_called 116 = .ok (.invokevirtual 134, 3) := by decide +kernel
theorem dX9_called_119 : decode cX9_called 119 = .ok (.ireturn, 1) := by decide +kernel
theorem dX9_called_120 : decode cX9_called 120 = .ok (.aload_n 0, 1) := by decide +kernel
theorem dX9_called_121 : decode cX9_called 121 = .ok (.iload_n 2, 1) := by decide +kernel
theorem dX9_called_122 : decode cX9_called 122 = .ok (.invokevirtual 141, 3) := by decide +kernel
theorem dX9_called_125 : decode cX9_called 125 = .ok (.ireturn, 1) := by decide +kernel
theorem dX9_called_126 : decode cX9_called 126 = .ok (.aload_n 0, 1) := by decide +kernel
theorem dX9_called_127 : decode cX9_called 127 = .ok (.invokevirtual 144, 3) := by decide +kernel
theorem dX9_called_130 : decode cX9_called 130 = .ok (.ireturn, 1) := by decide +kernel
theorem dX9_called_131 : decode cX9_called 131 = .ok (.aload_n 0, 1) := by decide +kernel
theorem dX9_called_132 : decode cX9_called 132 = .ok (.invokevirtual 147, 3) := by decide +kernel
theorem dX9_called_135 : decode cX9_called 135 = .ok (.ireturn, 1) := by decide +kernel
theorem dX9_called_136 : decode cX9_called 136 = .ok (.aload_n 0, 1) := by decide +kernel
theorem dX9_called_137 : decode cX9_called 137 = .ok (.invokevirtual 150, 3) := by decide +kernel
theorem dX9_called_140 : decode cX9_called 140 = .ok (.ireturn, 1) := by decide +kernel
theorem dX9_called_141 : decode cX9_called 141 = .ok (.aload_n 0, 1) := by decide +kernel
theorem dX9_called_142 : decode cX9_called 142 = .ok (.iload_n 2, 1) := by decide +kernel
theorem dX9_called_143 : decode cX9_called 143 = .ok (.invokevirtual 153, 3) := by decide +kernel
theorem dX9_called_146 : decode cX9_called 146 = .ok (.ireturn, 1) := by decide +kernel
theorem dX9_called_147 : decode cX9_called 147 = .ok (.aload_n 0, 1) := by decide +kernel
theorem dX9_called_148 : decode cX9_called 148 = .ok (.iload_n 2, 1) := by decide +kernel
theorem dX9_called_149 : decode cX9_called 149 = .ok (.invokevirtual 156, 3) := by decide +kernel
theorem dX9_called_152 : decode cX9_called 152 = .ok (.ireturn, 1) := by decide +kernel
theorem dX9_does_0 : decode cX9_does 0 = .ok (.aload_n 0, 1) := by decide +kernel
theorem dX9_does_1 : decode cX9_does 1 = .ok (.iconst 0, 1) := by decide +kernel
theorem dX9_does_2 : decode cX9_does 2 = .ok (.putfield 177, 3) := by decide +kernel
theorem dX9_does_5 : decode cX9_does 5 = .ok (.aload_n 0, 1) := by decide +kernel
theorem dX9_does_6 : decode cX9_does 6 = .ok (.iconst 0, 1) := by decide +kernel
theorem dX9_does_7 : decode cX9_does 7 = .ok (.putfield 190, 3) := by decide +kernel
theorem dX9_does_10 : decode cX9_does 10 = .ok (.aload_n 0, 1) := by decide +kernel
theorem dX9_does_11 : decode cX9_does 11 = .ok (.getfield 177, 3) := by decide +kernel
theorem dX9_does_14 : decode cX9_does 14 = .ok (.aload_n 0, 1) := by decide +kernel
theorem dX9_does_15 : decode cX9_does 15 = .ok (.getfield 171, 3) := by decide +kernel
theorem dX9_does_18 : decode cX9_does 18 = .ok (.if_icmp .ge 185, 3) := by decide +kernel
theorem dX9_does_21 : decode cX9_does 21 = .ok (.aload_n 0, 1) := by decide +kernel
theorem dX9_does_22 : decode cX9_does 22 = .ok (.getfield 177, 3) := by decide +kernel
theorem dX9_does_25 : decode cX9_does 25 = .ok (.istore_n 1, 1) := by decide +kernel
theorem dX9_does_26 : decode cX9_does 26 = .ok (.aload_n 0, 1) := by decide +kernel
theorem dX9_does_27 : decode cX9_does 27 = .ok (.invokevirtual 180, 3) := by decide +kernel
theorem dX9_does_30 : decode cX9_does 30 = .ok (.istore_n 2, 1) := by decide +kernel
theorem dX9_does_31 : decode cX9_does 31 = .ok (.aload_n 0, 1) := by decide +kernel
theorem dX9_does_32 : decode cX9_does 32 = .ok (.iload_n 2, 1) := by decide +kernel
theorem dX9_does_33 : decode cX9_does 33 = .ok (.invokestatic 193, 3) := by decide +kernel
theorem dX9_does_36 : decode cX9_does 36 = .ok (.ifCond .ne 28, 3) := by decide +kernel
theorem dX9_does_39 : decode cX9_does 39 = .ok (.iload_n 2, 1) := by decide +kernel
theorem dX9_does_40 : decode cX9_does 40 = .ok (.invokestatic 196, 3) := by decide +kernel
theorem dX9_does_43 : decode cX9_does 43 = .ok (.ifCond .ne 21, 3) := by decide +kernel
theorem dX9_does_46 : decode cX9_does 46 = .ok (.iload_n 2, 1) := by decide +kernel
theorem dX9_does_47 : decode cX9_does 47 = .ok (.bipush 120, 2) := by decide +kernel
theorem dX9_does_49 : decode cX9_does 49 = .ok (.if_icmp .eq 15, 3) := by decide +kernel
theorem dX9_does_52 : decode cX9_does 52 = .ok (.iload_n 2, 1) := by decide +kernel
theorem dX9_does_53 : decode cX9_does 53 = .ok (.bipush 111, 2) := by decide +kernel
theorem dX9_does_55 : decode cX9_does 55 = .ok (.if_icmp .eq 9, 3) := by decide +kernel
theorem dX9_does_58 : decode cX9_does 58 = .ok (.iload_n 2, 1) := by decide +kernel
theorem dX9_does_59 : decode cX9_does 59 = .ok (.bipush 115, 2) := by decide +kernel
theorem dX9_does_61 : decode cX9_does 61 = .ok (.if_icmp .ne 7, 3) := by decide +kernel
theorem dX9_does_64 : decode cX9_does 64 = .ok (.iconst 1, 1) := by decide +kernel
theorem dX9_does_65 : decode cX9_does 65 = .ok (.goto 4, 3) := by decide +kernel
theorem dX9_does_68 : decode cX9_does 68 = .ok (.iconst 0, 1) := by decide +kernel
theorem dX9_does_69 : decode cX9_does 69 = .ok (.putfield 183, 3) := by decide +kernel
theorem dX9_does_72 : decode cX9_does 72 = .ok (.aload_n 0, 1) := by decide +kernel
theorem dX9_does_73 : decode cX9_does 73 = .ok (.dup, 1) := by decide +kernel
theorem dX9_does_74 : decode cX9_does 74 = .ok (.getfield 177, 3) := by decide +kernel
theorem dX9_does_77 : decode cX9_does 77 = .ok (.aload_n 0, 1) := by decide +kernel
theorem dX9_does_78 : decode cX9_does 78 = .ok (.getfield 183, 3) := by decide +kernel
theorem dX9_does_81 : decode cX9_does 81 = .ok (.ifCond .eq 7, 3) := by decide +kernel
theorem dX9_does_84 : decode cX9_does 84 = .ok (.iconst 1, 1) := by decide +kernel
theorem dX9_does_85 : decode cX9_does 85 = .ok (.goto 4, 3) := by decide +kernel
theorem dX9_does_88 : decode cX9_does 88 = .ok (.iconst 0, 1) := by decide +kernel
theorem dX9_does_89 : decode cX9_does 89 = .ok (.iadd, 1) := by decide +kernel
theorem dX9_does_90 : decode cX9_does 90 = .ok (.putfield 177, 3) := by decide +kernel
theorem dX9_does_93 : decode cX9_does 93 = .ok (.iload_n 2, 1) := by decide +kernel
theorem dX9_does_94 : decode cX9_does 94 = .ok (.invokestatic 193, 3) := by decide +kernel
theorem dX9_does_97 : decode cX9_does 97 = .ok (.ifCond .ne 10, 3) := by decide +kernel
theorem dX9_does_100 : decode cX9_does 100 = .ok (.iload_n 2, 1) := by decide +kernel
theorem dX9_does_101 : decode cX9_does 101 = .ok (.invokestatic 196, 3) := by decide +kernel
theorem dX9_does_104 : decode cX9_does 104 = .ok (.ifCond .eq 10, 3) := by decide +kernel
theorem dX9_does_107 : decode cX9_does 107 = .ok (.aload_n 0, 1) := by decide +kernel
theorem dX9_does_108 : decode cX9_does 108 = .ok (.invokevirtual 199, 3) := by decide +kernel
theorem dX9_does_111 : decode cX9_does 111 = .ok (.goto 4, 3) := by decide +kernel
theorem dX9_does_114 : decode cX9_does 114 = .ok (.iconst 0, 1) := by decide +kernel
theorem dX9_does_115 : decode cX9_does 115 = .ok (.istore_n 3, 1) := by decide +kernel
theorem dX9_does_116 : decode cX9_does 116 = .ok (.iconst 0, 1) := by decide +kernel
theorem dX9_does_117 : decode cX9_does 117 = .ok (.istore 4, 2) := by decide +kernel
theorem dX9_does_119 : decode cX9_does 119 = .ok (.aload_n 0, 1) := by decide +kernel
theorem dX9_does_120 : decode cX9_does 120 = .ok (.getfield 183, 3) := by decide +kernel
theorem dX9_does_123 : decode cX9_does 123 = .ok (.ifCond .eq 22, 3) := by decide +kernel
theorem dX9_does_126 : decode cX9_does 126 = .ok (.iload_n 2, 1) := by decide +kernel
theorem dX9_does_127 : decode cX9_does 127 = .ok (.invokestatic 193, 3) := by decide +kernel
theorem dX9_does_130 : decode cX9_does 130 = .ok (.ifCond .eq 15, 3) := by decide +kernel
theorem dX9_does_133 : decode cX9_does 133 = .ok (.aload_n 0, 1) := by decide +kernel
theorem dX9_does_134 : decode cX9_does 134 = .ok (.bipush 44, 2) := by decide +kernel
theorem dX9_does_136 : decode cX9_does 136 = .ok (.invokevirtual 202, 3) := by decide +kernel
theorem dX9_does_139 : decode cX9_does 139 = .ok (.aload_n 0, 1) := by decide +kernel
theorem dX9_does_140 : decode cX9_does 140 = .ok (.invokevirtual 199, 3) := by decide +kernel
theorem dX9_does_143 : decode cX9_does 143 = .ok (.istore 4, 2) := by decide +kernel
theorem dX9_does_145 : decode cX9_does 145 = .ok (.aload_n 0, 1) := by decide +kernel
theorem dX9_does_146 : decode cX9_does 146 = .ok (.bipush 59, 2) := by decide +kernel
theorem dX9_does_148 : decode cX9_does 148 = .ok (.invokevirtual 202, 3) := by decide +kernel
theorem dX9_does_151 : decode cX9_does 151 = .ok (.aload_n 0, 1) := by decide +kernel
theorem dX9_does_152 : decode cX9_does 152 = .ok (.aload_n 0, 1) := by decide +kernel
theorem dX9_does_153 : decode cX9_does 153 = .ok (.getfield 183, 3) := by decide +kernel
theorem dX9_does_156 : decode cX9_does 156 = .ok (.ifCond .eq 14, 3) := by decide +kernel
theorem dX9_does_159 : decode cX9_does 159 = .ok (.aload_n 0, 1) := by decide +kernel
theorem dX9_does_160 : decode cX9_does 160 = .ok (.iload_n 2, 1) := by decide +kernel
theorem dX9_does_161 : decode cX9_does 161 = .ok (.iload_n 3, 1) := by decide +kernel
theorem dX9_does_162 : decode cX9_does 162 = .ok (.iload 4, 2) := by decide +kernel
theorem dX9_does_164 : decode cX9_does 164 = .ok (.invokevirtual 205, 3) := by decide +kernel
theorem dX9_does_167 : decode cX9_does 167 = .ok (.goto 4, 3) := by decide +kernel
theorem dX9_does_170 : decode cX9_does 170 = .ok (.iconst 0, 1) := by decide +kernel
theorem dX9_does_171 : decode cX9_does 171 = .ok (.putfield 208, 3) := by decide +kernel
theorem dX9_does_174 : decode cX9_does 174 = .ok (.aload_n 0, 1) := by decide +kernel
theorem dX9_does_175 : decode cX9_does 175 = .ok (.getfield 183, 3) := by decide +kernel
theorem dX9_does_178 : decode cX9_does 178 = .ok (.ifCond .eq 10, 3) := by decide +kernel
theorem dX9_does_181 : decode cX9_does 181 = .ok (.aload_n 0, 1) := by decide +kernel
theorem dX9_does_182 : decode cX9_does 182 = .ok (.getfield 208, 3) := by decide +kernel
theorem dX9_does_185 : decode cX9_does 185 = .ok (.ifCond .ge 5, 3) := by decide +kernel
theorem dX9_does_188 : decode cX9_does 188 = .ok (.iload_n 1, 1) := by decide +kernel
theorem dX9_does_189 : decode cX9_does 189 = .ok (.ireturn, 1) := by decide +kernel
theorem dX9_does_190 : decode cX9_does 190 = .ok (.aload_n 0, 1) := by decide +kernel
theorem dX9_does_191 : decode cX9_does 191 = .ok (.dup, 1) := by decide +kernel
theorem dX9_does_192 : decode cX9_does 192 = .ok (.getfield 190, 3) := by decide +kernel
theorem dX9_does_195 : decode cX9_does 195 = .ok (.iconst 1, 1) := by decide +kernel
theorem dX9_does_196 : decode cX9_does 196 = .ok (.iadd, 1) := by decide +kernel
theorem dX9_does_197 : decode cX9_does 197 = .ok (.putfield 190, 3) := by decide +kernel
theorem dX9_does_200 : decode cX9_does 200 = .ok (.goto (-190), 3) := by decide +kernel
theorem dX9_does_203 : decode cX9_does 203 = .ok (.iconst (-1), 1) := by decide +kernel
theorem dX9_does_204 : decode cX9_does 204 = .ok (.ireturn, 1) := by decide +kernel
theorem dX9_fault_0 : decode cX9_fault 0 = .ok (.iload_n 1, 1) := by decide +kernel
theorem dX9_fault_1 : decode cX9_fault 1 = .ok (.iconst 0, 1) := by decide +kernel
theorem dX9_fault_2 : decode cX9_fault 2 = .ok (.iconst 2, 1) := by decide +kernel
theorem dX9_fault_3 : decode cX9_fault 3 = .ok (.invokestatic 32, 3) := by decide +kernel
theorem dX9_fault_6 : decode cX9_fault 6 = .ok (.ifCond .ne 5, 3) := by decide +kernel
theorem dX9_fault_9 : decode cX9_fault 9 = .ok (.iconst (-1), 1) := by decide +kernel
theorem dX9_fault_10 : decode cX9_fault 10 = .ok (.ireturn, 1) := by decide +kernel
theorem dX9_fault_11 : decode cX9_fault 11 = .ok (.aload_n 0, 1) := by decide +kernel
theorem dX9_fault_12 : decode cX9_fault 12 = .ok (.invokevirtual 131, 3) := by decide +kernel
theorem dX9_fault_15 : decode cX9_fault 15 = .ok (.aload_n 0, 1) := by decide +kernel
theorem dX9_fault_16 : decode cX9_fault 16 = .ok (.invokevirtual 211, 3) := by decide +kernel
theorem dX9_fault_19 : decode cX9_fault 19 = .ok (.istore_n 2, 1) := by decide +kernel
theorem dX9_fault_20 : decode cX9_fault 20 = .ok (.aload_n 0, 1) := by decide +kernel
theorem dX9_fault_21 : decode cX9_fault 21 = .ok (.invokevirtual 25, 3) := by decide +kernel
theorem dX9_fault_24 : decode cX9_fault 24 = .ok (.iload_n 2, 1) := by decide +kernel
theorem dX9_fault_25 : decode cX9_fault 25 = .ok (.ifCond .lt 19, 3) := by decide +kernel
theorem dX9_fault_28 : decode cX9_fault 28 = .ok (.iload_n 1, 1) := by decide +kernel
theorem dX9_fault_29 : decode cX9_fault 29 = .ok (.iconst 2, 1) := by decide +kernel
theorem dX9_fault_30 : decode cX9_fault 30 = .ok (.if_icmp .lt 10, 3) := by decide +kernel
theorem dX9_fault_33 : decode cX9_fault 33 = .ok (.aload_n 0, 1) := by decide +kernel
theorem dX9_fault_34 : decode cX9_fault 34 = .ok (.getfield 183, 3) := by decide +kernel
theorem dX9_fault_37 : decode cX9_fault 37 = .ok (.ifCond .eq 7, 3) := by decide +kernel
theorem dX9_fault_40 : decode cX9_fault 40 = .ok (.iconst 1, 1) := by decide +kernel
theorem dX9_fault_41 : decode cX9_fault 41 = .ok (.goto 4, 3) := by decide +kernel
theorem dX9_fault_44 : decode cX9_fault 44 = .ok (.iconst 0, 1) := by decide +kernel
theorem dX9_fault_45 : decode cX9_fault 45 = .ok (.istore_n 3, 1) := by decide +kernel
theorem dX9_fault_46 : decode cX9_fault 46 = .ok (.iload_n 3, 1) := by decide +kernel
theorem dX9_fault_47 : decode cX9_fault 47 = .ok (.ifCond .ne 8, 3) := by decide +kernel
theorem dX9_fault_50 : decode cX9_fault 50 = .ok (.bipush (-4), 2) := by decide +kernel
theorem dX9_fault_52 : decode cX9_fault 52 = .ok (.goto 35, 3) := by decide +kernel
theorem dX9_fault_55 : decode cX9_fault 55 = .ok (.iload_n 1, 1) := by decide +kernel
theorem dX9_fault_56 : decode cX9_fault 56 = .ok (.ifCond .ne 7, 3) := by decide +kernel
theorem dX9_fault_59 : decode cX9_fault 59 = .ok (.iload_n 2, 1) := by decide +kernel
theorem dX9_fault_60 : decode cX9_fault 60 = .ok (.goto 27, 3) := by decide +kernel
theorem dX9_fault_63 : decode cX9_fault 63 = .ok (.iload_n 1, 1) := by decide +kernel
theorem dX9_fault_64 : decode cX9_fault 64 = .ok (.iconst 1, 1) := by decide +kernel
theorem dX9_fault_65 : decode cX9_fault 65 = .ok (.if_icmp .ne 18, 3) := by decide +kernel
theorem dX9_fault_68 : decode cX9_fault 68 = .ok (.aload_n 0, 1) := by decide +kernel
theorem dX9_fault_69 : decode cX9_fault 69 = .ok (.getfield 183, 3) := by decide +kernel
theorem dX9_fault_72 : decode cX9_fault 72 = .ok (.ifCond .eq 7, 3) := by decide +kernel
theorem dX9_fault_75 : decode cX9_fault 75 = .ok (.iconst 2, 1) := by decide +kernel
theorem dX9_fault_76 : decode cX9_fault 76 = .ok (.goto 11, 3) := by decide +kernel
theorem dX9_fault_79 : decode cX9_fault 79 = .ok (.iconst 1, 1) := by decide +kernel
theorem dX9_fault_80 : decode cX9_fault 80 = .ok (.goto 7, 3) := by decide +kernel
theorem dX9_fault_83 : decode cX9_fault 83 = .ok (.aload_n 0, 1) := by decide +kernel
theorem dX9_fault_84 : decode cX9_fault 84 = .ok (.getfield 208, 3) := by decide +kernel
theorem dX9_fault_87 : decode cX9_fault 87 = .ok (.ireturn, 1) := by decide +kernel
theorem dX9_play_0 : decode cX9_play 0 = .ok (.aload_n 0, 1) := by decide +kernel
theorem dX9_play_1 : decode cX9_play 1 = .ok (.invokevirtual 131, 3) := by decide +kernel
theorem dX9_play_4 : decode cX9_play 4 = .ok (.aload_n 0, 1) := by decide +kernel
theorem dX9_play_5 : decode cX9_play 5 = .ok (.aload_n 0, 1) := by decide +kernel
theorem dX9_play_6 : decode cX9_play 6 = .ok (.invokevirtual 211, 3) := by decide +kernel
theorem dX9_play_9 : decode cX9_play 9 = .ok (.ifCond .ge 10, 3) := by decide +kernel
theorem dX9_play_12 : decode cX9_play 12 = .ok (.aload_n 0, 1) := by decide +kernel
theorem dX9_play_13 : decode cX9_play 13 = .ok (.getfield 190, 3) := by decide +kernel
theorem dX9_play_16 : decode cX9_play 16 = .ok (.goto 5, 3) := by decide +kernel
theorem dX9_play_19 : decode cX9_play 19 = .ok (.bipush (-2), 2) := by decide +kernel
theorem dX9_play_21 : decode cX9_play 21 = .ok (.invokevirtual 138, 3) := by decide +kernel
theorem dX9_play_24 : decode cX9_play 24 = .ok (.ireturn, 1) := by decide +kernel
theorem dJ6_bitCount_0f7a4_0 : decode cJ6_bitCount_0f7a4 0 = .ok (.iload_n 0, 1) := by decide +kernel
theorem dJ6_bitCount_0f7a4_1 : decode cJ6_bitCount_0f7a4 1 = .ok (.iload_n 0, 1) := by decide +kernel
theorem dJ6_bitCount_0f7a4_2 : decode cJ6_bitCount_0f7a4 2 = .ok (.iconst 1, 1) := by decide +kernel
theorem dJ6_bitCount_0f7a4_3 : decode cJ6_bitCount_0f7a4 3 = .ok (.iushr, 1) := by decide +kernel
theorem dJ6_bitCount_0f7a4_4 : decode cJ6_bitCount_0f7a4 4 = .ok (.ldc_w 265, 3) := by decide +kernel
theorem dJ6_bitCount_0f7a4_7 : decode cJ6_bitCount_0f7a4 7 = .ok (.iand, 1) := by decide +kernel
theorem dJ6_bitCount_0f7a4_8 : decode cJ6_bitCount_0f7a4 8 = .ok (.isub, 1) := by decide +kernel
theorem dJ6_bitCount_0f7a4_9 : decode cJ6_bitCount_0f7a4 9 = .ok (.istore_n 0, 1) := by decide +kernel
theorem dJ6_bitCount_0f7a4_10 : decode cJ6_bitCount_0f7a4 10 = .ok (.iload_n 0, 1) := by decide +kernel
theorem dJ6_bitCount_0f7a4_11 : decode cJ6_bitCount_0f7a4 11 = .ok (.ldc_w 266, 3) := by decide +kernel
theorem dJ6_bitCount_0f7a4_14 : decode cJ6_bitCount_0f7a4 14 = .ok (.iand, 1) := by decide +kernel
theorem dJ6_bitCount_0f7a4_15 : decode cJ6_bitCount_0f7a4 15 = .ok (.iload_n 0, 1) := by decide +kernel
theorem dJ6_bitCount_0f7a4_16 : decode cJ6_bitCount_0f7a4 16 = .ok (.iconst 2, 1) := by decide +kernel
theorem dJ6_bitCount_0f7a4_17 : decode cJ6_bitCount_0f7a4 17 = .ok (.iushr, 1) := by decide +kernel
theorem dJ6_bitCount_0f7a4_18 : decode cJ6_bitCount_0f7a4 18 = .ok (.ldc_w 266, 3) := by decide +kernel
theorem dJ6_bitCount_0f7a4_21 : decode cJ6_bitCount_0f7a4 21 = .ok (.iand, 1) := by decide +kernel
theorem dJ6_bitCount_0f7a4_22 : decode cJ6_bitCount_0f7a4 22 = .ok (.iadd, 1) := by decide +kernel
theorem dJ6_bitCount_0f7a4_23 : decode cJ6_bitCount_0f7a4 23 = .ok (.istore_n 0, 1) := by decide +kernel
theorem dJ6_bitCount_0f7a4_24 : decode cJ6_bitCount_0f7a4 24 = .ok (.iload_n 0, 1) := by decide +kernel
theorem dJ6_bitCount_0f7a4_25 : decode cJ6_bitCount_0f7a4 25 = .ok (.iload_n 0, 1) := by decide +kernel
theorem dJ6_bitCount_0f7a4_26 : decode cJ6_bitCount_0f7a4 26 = .ok (.iconst 4, 1) := by decide +kernel
theorem dJ6_bitCount_0f7a4_27 : decode cJ6_bitCount_0f7a4 27 = .ok (.iushr, 1) := by decide +kernel
theorem dJ6_bitCount_0f7a4_28 : decode cJ6_bitCount_0f7a4 28 = .ok (.iadd, 1) := by decide +kernel
theorem dJ6_bitCount_0f7a4_29 : decode cJ6_bitCount_0f7a4 29 = .ok (.ldc_w 267, 3) := by decide +kernel
theorem dJ6_bitCount_0f7a4_32 : decode cJ6_bitCount_0f7a4 32 = .ok (.iand, 1) := by decide +kernel
theorem dJ6_bitCount_0f7a4_33 : decode cJ6_bitCount_0f7a4 33 = .ok (.istore_n 0, 1) := by decide +kernel
theorem dJ6_bitCount_0f7a4_34 : decode cJ6_bitCount_0f7a4 34 = .ok (.iload_n 0, 1) := by decide +kernel
theorem dJ6_bitCount_0f7a4_35 : decode cJ6_bitCount_0f7a4 35 = .ok (.iload_n 0, 1) := by decide +kernel
theorem dJ6_bitCount_0f7a4_36 : decode cJ6_bitCount_0f7a4 36 = .ok (.bipush 8, 2) := by decide +kernel
theorem dJ6_bitCount_0f7a4_38 : decode cJ6_bitCount_0f7a4 38 = .ok (.iushr, 1) := by decide +kernel
theorem dJ6_bitCount_0f7a4_39 : decode cJ6_bitCount_0f7a4 39 = .ok (.iadd, 1) := by decide +kernel
theorem dJ6_bitCount_0f7a4_40 : decode cJ6_bitCount_0f7a4 40 = .ok (.istore_n 0, 1) := by decide +kernel
theorem dJ6_bitCount_0f7a4_41 : decode cJ6_bitCount_0f7a4 41 = .ok (.iload_n 0, 1) := by decide +kernel
theorem dJ6_bitCount_0f7a4_42 : decode cJ6_bitCount_0f7a4 42 = .ok (.iload_n 0, 1) := by decide +kernel
theorem dJ6_bitCount_0f7a4_43 : decode cJ6_bitCount_0f7a4 43 = .ok (.bipush 16, 2) := by decide +kernel
theorem dJ6_bitCount_0f7a4_45 : decode cJ6_bitCount_0f7a4 45 = .ok (.iushr, 1) := by decide +kernel
theorem dJ6_bitCount_0f7a4_46 : decode cJ6_bitCount_0f7a4 46 = .ok (.iadd, 1) := by decide +kernel
theorem dJ6_bitCount_0f7a4_47 : decode cJ6_bitCount_0f7a4 47 = .ok (.istore_n 0, 1) := by decide +kernel
theorem dJ6_bitCount_0f7a4_48 : decode cJ6_bitCount_0f7a4 48 = .ok (.iload_n 0, 1) := by decide +kernel
theorem dJ6_bitCount_0f7a4_49 : decode cJ6_bitCount_0f7a4 49 = .ok (.bipush 63, 2) := by decide +kernel
theorem dJ6_bitCount_0f7a4_51 : decode cJ6_bitCount_0f7a4 51 = .ok (.iand, 1) := by decide +kernel
theorem dJ6_bitCount_0f7a4_52 : decode cJ6_bitCount_0f7a4 52 = .ok (.ireturn, 1) := by decide +kernel
theorem dJ9_max_7cf53_0 : decode cJ9_max_7cf53 0 = .ok (.iload_n 0, 1) := by decide +kernel
theorem dJ9_max_7cf53_1 : decode cJ9_max_7cf53 1 = .ok (.iload_n 1, 1) := by decide +kernel
theorem dJ9_max_7cf53_2 : decode cJ9_max_7cf53 2 = .ok (.if_icmp .lt 7, 3) := by decide +kernel
theorem dJ9_max_7cf53_5 : decode cJ9_max_7cf53 5 = .ok (.iload_n 0, 1) := by decide +kernel
theorem dJ9_max_7cf53_6 : decode cJ9_max_7cf53 6 = .ok (.goto 4, 3) := by decide +kernel
theorem dJ9_max_7cf53_9 : decode cJ9_max_7cf53 9 = .ok (.iload_n 1, 1) := by decide +kernel
theorem dJ9_max_7cf53_10 : decode cJ9_max_7cf53 10 = .ok (.ireturn, 1) := by decide +kernel
theorem dJ9_min_7cf53_0 : decode cJ9_min_7cf53 0 = .ok (.iload_n 0, 1) := by decide +kernel
theorem dJ9_min_7cf53_1 : decode cJ9_min_7cf53 1 = .ok (.iload_n 1, 1) := by decide +kernel
theorem dJ9_min_7cf53_2 : decode cJ9_min_7cf53 2 = .ok (.if_icmp .gt 7, 3) := by decide +kernel
theorem dJ9_min_7cf53_5 : decode cJ9_min_7cf53 5 = .ok (.iload_n 0, 1) := by decide +kernel
theorem dJ9_min_7cf53_6 : decode cJ9_min_7cf53 6 = .ok (.goto 4, 3) := by decide +kernel
theorem dJ9_min_7cf53_9 : decode cJ9_min_7cf53 9 = .ok (.iload_n 1, 1) := by decide +kernel
theorem dJ9_min_7cf53_10 : decode cJ9_min_7cf53 10 = .ok (.ireturn, 1) := by decide +kernel
theorem dL_law_0 : decode cL_law 0 = .ok (.new 7, 3) := by decide +kernel
theorem dL_law_3 : decode cL_law 3 = .ok (.dup, 1) := by decide +kernel
theorem dL_law_4 : decode cL_law 4 = .ok (.invokespecial 9, 3) := by decide +kernel
theorem dL_law_7 : decode cL_law 7 = .ok (.astore_n 1, 1) := by decide +kernel
theorem dL_law_8 : decode cL_law 8 = .ok (.new 10, 3) := by decide +kernel
theorem dL_law_11 : decode cL_law 11 = .ok (.dup, 1) := by decide +kernel
theorem dL_law_12 : decode cL_law 12 = .ok (.invokespecial 12, 3) := by decide +kernel
theorem dL_law_15 : decode cL_law 15 = .ok (.astore_n 2, 1) := by decide +kernel
theorem dL_law_16 : decode cL_law 16 = .ok (.iconst 0, 1) := by decide +kernel
theorem dL_law_17 : decode cL_law 17 = .ok (.istore_n 3, 1) := by decide +kernel
theorem dL_law_18 : decode cL_law 18 = .ok (.iload_n 3, 1) := by decide +kernel
theorem dL_law_19 : decode cL_law 19 = .ok (.aload_n 0, 1) := by decide +kernel
theorem dL_law_20 : decode cL_law 20 = .ok (.arraylength, 1) := by decide +kernel
theorem dL_law_21 : decode cL_law 21 = .ok (.iconst 4, 1) := by decide +kernel
theorem dL_law_22 : decode cL_law 22 = .ok (.isub, 1) := by decide +kernel
theorem dL_law_23 : decode cL_law 23 = .ok (.if_icmp .gt 655, 3) := by decide +kernel
theorem dL_law_26 : decode cL_law 26 = .ok (.aload_n 0, 1) := by decide +kernel
theorem dL_law_27 : decode cL_law 27 = .ok (.iload_n 3, 1) := by decide +kernel
theorem dL_law_28 : decode cL_law 28 = .ok (.iaload, 1) := by decide +kernel
theorem dL_law_29 : decode cL_law 29 = .ok (.bipush 31, 2) := by decide +kernel
theorem dL_law_31 : decode cL_law 31 = .ok (.iand, 1) := by decide +kernel
theorem dL_law_32 : decode cL_law 32 = .ok (.tableswitch 640 0 21 #[104, 147, 170, 183, 196, 209, 232, 255, 288, 321, 344, 377, 420, 463, 496, 519, 542, 555, 568, 591, 604, 627], 104) := by decide +kernel
theorem dL_law_136 : decode cL_law 136 = .ok (.aload_n 1, 1) := by decide +kernel
theorem dL_law_137 : decode cL_law 137 = .ok (.aload_n 0, 1) := by decide +kernel
theorem dL_law_138 : decode cL_law 138 = .ok (.iload_n 3, 1) := by decide +kernel
theorem dL_law_139 : decode cL_law 139 = .ok (.iconst 1, 1) := by decide +kernel
theorem dL_law_140 : decode cL_law 140 = .ok (.iadd, 1) := by decide +kernel
theorem dL_law_141 : decode cL_law 141 = .ok (.iaload, 1) := by decide +kernel
theorem dL_law_142 : decode cL_law 142 = .ok (.aload_n 0, 1) := by decide +kernel
theorem dL_law_143 : decode cL_law 143 = .ok (.iload_n 3, 1) := by decide +kernel
theorem dL_law_144 : decode cL_law 144 = .ok (.iconst 2, 1) := by decide +kernel
theorem dL_law_145 : decode cL_law 145 = .ok (.iadd, 1) := by decide +kernel
theorem dL_law_146 : decode cL_law 146 = .ok (.iaload, 1) := by decide +kernel
theorem dL_law_147 : decode cL_law 147 = .ok (.aload_n 0, 1) := by decide +kernel
theorem dL_law_148 : decode cL_law 148 = .ok (.iload_n 3, 1) := by decide +kernel
theorem dL_law_149 : decode cL_law 149 = .ok (.iconst 3, 1) := by decide +kernel
theorem dL_law_150 : decode cL_law 150 = .ok (.iadd, 1) := by decide +kernel
theorem dL_law_151 : decode cL_law 151 = .ok (.iaload, 1) := by decide +kernel
theorem dL_law_152 : decode cL_law 152 = .ok (.invokevirtual 13, 3) := by decide +kernel
theorem dL_law_155 : decode cL_law 155 = .ok (.aload_n 2, 1) := by decide +kernel
theorem dL_law_156 : decode cL_law 156 = .ok (.aload_n 0, 1) := by decide +kernel
theorem dL_law_157 : decode cL_law 157 = .ok (.iload_n 3, 1) := by decide +kernel
theorem dL_law_158 : decode cL_law 158 = .ok (.iconst 1, 1) := by decide +kernel
theorem dL_law_159 : decode cL_law 159 = .ok (.iadd, 1) := by decide +kernel
theorem dL_law_160 : decode cL_law 160 = .ok (.iaload, 1) := by decide +kernel
theorem dL_law_161 : decode cL_law 161 = .ok (.aload_n 0, 1) := by decide +kernel
theorem dL_law_162 : decode cL_law 162 = .ok (.iload_n 3, 1) := by decide +kernel
theorem dL_law_163 : decode cL_law 163 = .ok (.iconst 2, 1) := by decide +kernel
theorem dL_law_164 : decode cL_law 164 = .ok (.iadd, 1) := by decide +kernel
theorem dL_law_165 : decode cL_law 165 = .ok (.iaload, 1) := by decide +kernel
theorem dL_law_166 : decode cL_law 166 = .ok (.aload_n 0, 1) := by decide +kernel
theorem dL_law_167 : decode cL_law 167 = .ok (.iload_n 3, 1) := by decide +kernel
theorem dL_law_168 : decode cL_law 168 = .ok (.iconst 3, 1) := by decide +kernel
theorem dL_law_169 : decode cL_law 169 = .ok (.iadd, 1) := by decide +kernel
theorem dL_law_170 : decode cL_law 170 = .ok (.iaload, 1) := by decide +kernel
theorem dL_law_171 : decode cL_law 171 = .ok (.invokevirtual 17, 3) := by decide +kernel
theorem dL_law_174 : decode cL_law 174 = .ok (.if_icmp .eq 498, 3) := by decide +kernel
theorem dL_law_177 : decode cL_law 177 = .ok (.iconst 0, 1) := by decide +kernel
theorem dL_law_178 : decode cL_law 178 = .ok (.ireturn, 1) := by decide +kernel
theorem dL_law_179 : decode cL_law 179 = .ok (.aload_n 1, 1) := by decide +kernel
theorem dL_law_180 : decode cL_law 180 = .ok (.aload_n 0, 1) := by decide +kernel
theorem dL_law_181 : decode cL_law 181 = .ok (.iload_n 3, 1) := by decide +kernel
theorem dL_law_182 : decode cL_law 182 = .ok (.iconst 1, 1) := by decide +kernel
theorem dL_law_183 : decode cL_law 183 = .ok (.iadd, 1) := by decide +kernel
theorem dL_law_184 : decode cL_law 184 = .ok (.iaload, 1) := by decide +kernel
theorem dL_law_185 : decode cL_law 185 = .ok (.invokevirtual 18, 3) := by decide +kernel
theorem dL_law_188 : decode cL_law 188 = .ok (.aload_n 2, 1) := by decide +kernel
theorem dL_law_189 : decode cL_law 189 = .ok (.aload_n 0, 1) := by decide +kernel
theorem dL_law_190 : decode cL_law 190 = .ok (.iload_n 3, 1) := by decide +kernel
theorem dL_law_191 : decode cL_law 191 = .ok (.iconst 1, 1) := by decide +kernel
theorem dL_law_192 : decode cL_law 192 = .ok (.iadd, 1) := by decide +kernel
theorem dL_law_193 : decode cL_law 193 = .ok (.iaload, 1) := by decide +kernel
theorem dL_law_194 : decode cL_law 194 = .ok (.invokevirtual 22, 3) := by decide +kernel
theorem dL_law_197 : decode cL_law 197 = .ok (.if_icmp .eq 475, 3) := by decide +kernel
theorem dL_law_200 : decode cL_law 200 = .ok (.iconst 0, 1) := by decide +kernel
theorem dL_law_201 : decode cL_law 201 = .ok (.ireturn, 1) := by decide +kernel
theorem dL_law_202 : decode cL_law 202 = .ok (.aload_n 1, 1) := by decide +kernel
theorem dL_law_203 : decode cL_law 203 = .ok (.invokevirtual 23, 3) := by decide +kernel
theorem dL_law_206 : decode cL_law 206 = .ok (.aload_n 2, 1) := by decide +kernel
theorem dL_law_207 : decode cL_law 207 = .ok (.invokevirtual 27, 3) := by decide +kernel
theorem dL_law_210 : decode cL_law 210 = .ok (.if_icmp .eq 462, 3) := by decide +kernel
theorem dL_law_213 : decode cL_law 213 = .ok (.iconst 0, 1) := by decide +kernel
theorem dL_law_214 : decode cL_law 214 = .ok (.ireturn, 1) := by decide +kernel
theorem dL_law_215 : decode cL_law 215 = .ok (.aload_n 1, 1) := by decide +kernel
theorem dL_law_216 : decode cL_law 216 = .ok (.invokevirtual 28, 3) := by decide +kernel
theorem dL_law_219 : decode cL_law 219 = .ok (.aload_n 2, 1) := by decide +kernel
theorem dL_law_220 : decode cL_law 220 = .ok (.invokevirtual 31, 3) := by decide +kernel
theorem dL_law_223 : decode cL_law 223 = .ok (.if_icmp .eq 449, 3) := by decide +kernel
theorem dL_law_226 : decode cL_law 226 = .ok (.iconst 0, 1) := by decide +kernel
theorem dL_law_227 : decode cL_law 227 = .ok (.ireturn, 1) := by decide +kernel
theorem dL_law_228 : decode cL_law 228 = .ok (.aload_n 1, 1) := by decide +kernel
theorem dL_law_229 : decode cL_law 229 = .ok (.invokevirtual 32, 3) := by decide +kernel
theorem dL_law_232 : decode cL_law 232 = .ok (.aload_n 2, 1) := by decide +kernel
theorem dL_law_233 : decode cL_law 233 = .ok (.invokevirtual 35, 3) := by decide +kernel
theorem dL_law_236 : decode cL_law 236 = .ok (.if_icmp .eq 436, 3) := by decide +kernel
theorem dL_law_239 : decode cL_law 239 = .ok (.iconst 0, 1) := by decide +kernel
theorem dL_law_240 : decode cL_law 240 = .ok (.ireturn, 1) := by decide +kernel
theorem dL_law_241 : decode cL_law 241 = .ok (.aload_n 1, 1) := by decide +kernel
theorem dL_law_242 : decode cL_law 242 = .ok (.aload_n 0, 1) := by decide +kernel
theorem dL_law_243 : decode cL_law 243 = .ok (.iload_n 3, 1) := by decide +kernel
theorem dL_law_244 : decode cL_law 244 = .ok (.iconst 1, 1) := by decide +kernel
theorem dL_law_245 : decode cL_law 245 = .ok (.iadd, 1) := by decide +kernel
theorem dL_law_246 : decode cL_law 246 = .ok (.iaload, 1) := by decide +kernel
theorem dL_law_247 : decode cL_law 247 = .ok (.invokevirtual 36, 3) := by decide +kernel
theorem dL_law_250 : decode cL_law 250 = .ok (.aload_n 2, 1) := by decide +kernel
theorem dL_law_251 : decode cL_law 251 = .ok (.aload_n 0, 1) := by decide +kernel
theorem dL_law_252 : decode cL_law 252 = .ok (.iload_n 3, 1) := by decide +kernel
theorem dL_law_253 : decode cL_law 253 = .ok (.iconst 1, 1) := by decide +kernel
theorem dL_law_254 : decode cL_law 254 = .ok (.iadd, 1) := by decide +kernel
theorem dL_law_255 : decode cL_law 255 = .ok (.iaload, 1) := by decide +kernel
theorem dL_law_256 : decode cL_law 256 = .ok (.invokevirtual 39, 3) := by decide +kernel
theorem dL_law_259 : decode cL_law 259 = .ok (.if_icmp .eq 413, 3) := by decide +kernel
theorem dL_law_262 : decode cL_law 262 = .ok (.iconst 0, 1) := by decide +kernel
theorem dL_law_263 : decode cL_law 263 = .ok (.ireturn, 1) := by decide +kernel
theorem dL_law_264 : decode cL_law 264 = .ok (.aload_n 1, 1) := by decide +kernel
theorem dL_law_265 : decode cL_law 265 = .ok (.aload_n 0, 1) := by decide +kernel
theorem dL_law_266 : decode cL_law 266 = .ok (.iload_n 3, 1) := by decide +kernel
theorem dL_law_267 : decode cL_law 267 = .ok (.iconst 1, 1) := by decide +kernel
theorem dL_law_268 : decode cL_law 268 = .ok (.iadd, 1) := by decide +kernel
theorem dL_law_269 : decode cL_law 269 = .ok (.iaload, 1) := by decide +kernel
theorem dL_law_270 : decode cL_law 270 = .ok (.invokevirtual 40, 3) := by decide +kernel
theorem dL_law_273 : decode cL_law 273 = .ok (.aload_n 2, 1) := by decide +kernel
theorem dL_law_274 : decode cL_law 274 = .ok (.aload_n 0, 1) := by decide +kernel
theorem dL_law_275 : decode cL_law 275 = .ok (.iload_n 3, 1) := by decide +kernel
theorem dL_law_276 : decode cL_law 276 = .ok (.iconst 1, 1) := by decide +kernel
theorem dL_law_277 : decode cL_law 277 = .ok (.iadd, 1) := by decide +kernel
theorem dL_law_278 : decode cL_law 278 = .ok (.iaload, 1) := by decide +kernel
theorem dL_law_279 : decode cL_law 279 = .ok (.invokevirtual 43, 3) := by decide +kernel
theorem dL_law_282 : decode cL_law 282 = .ok (.if_icmp .eq 390, 3) := by decide +kernel
theorem dL_law_285 : decode cL_law 285 = .ok (.iconst 0, 1) := by decide +kernel
theorem dL_law_286 : decode cL_law 286 = .ok (.ireturn, 1) := by decide +kernel
theorem dL_law_287 : decode cL_law 287 = .ok (.aload_n 1, 1) := by decide +kernel
theorem dL_law_288 : decode cL_law 288 = .ok (.aload_n 0, 1) := by decide +kernel
theorem dL_law_289 : decode cL_law 289 = .ok (.iload_n 3, 1) := by decide +kernel
theorem dL_law_290 : decode cL_law 290 = .ok (.iconst 1, 1) := by decide +kernel
theorem dL_law_291 : decode cL_law 291 = .ok (.iadd, 1) := by decide +kernel
theorem dL_law_292 : decode cL_law 292 = .ok (.iaload, 1) := by decide +kernel
theorem dL_law_293 : decode cL_law 293 = .ok (.aload_n 0, 1) := by decide +kernel
theorem dL_law_294 : decode cL_law 294 = .ok (.iload_n 3, 1) := by decide +kernel
theorem dL_law_295 : decode cL_law 295 = .ok (.iconst 2, 1) := by decide +kernel
theorem dL_law_296 : decode cL_law 296 = .ok (.iadd, 1) := by decide +kernel
theorem dL_law_297 : decode cL_law 297 = .ok (.iaload, 1) := by decide +kernel
theorem dL_law_298 : decode cL_law 298 = .ok (.invokevirtual 44, 3) := by decide +kernel
theorem dL_law_301 : decode cL_law 301 = .ok (.aload_n 2, 1) := by decide +kernel
theorem dL_law_302 : decode cL_law 302 = .ok (.aload_n 0, 1) := by decide +kernel
theorem dL_law_303 : decode cL_law 303 = .ok (.iload_n 3, 1) := by decide +kernel
theorem dL_law_304 : decode cL_law 304 = .ok (.iconst 1, 1) := by decide +kernel
theorem dL_law_305 : decode cL_law 305 = .ok (.iadd, 1) := by decide +kernel
theorem dL_law_306 : decode cL_law 306 = .ok (.iaload, 1) := by decide +kernel
theorem dL_law_307 : decode cL_law 307 = .ok (.aload_n 0, 1) := by decide +kernel
theorem dL_law_308 : decode cL_law 308 = .ok (.iload_n 3, 1) := by decide +kernel
theorem dL_law_309 : decode cL_law 309 = .ok (.iconst 2, 1) := by decide +kernel
theorem dL_law_310 : decode cL_law 310 = .ok (.iadd, 1) := by decide +kernel
theorem dL_law_311 : decode cL_law 311 = .ok (.iaload, 1) := by decide +kernel
theorem dL_law_312 : decode cL_law 312 = .ok (.invokevirtual 48, 3) := by decide +kernel
theorem dL_law_315 : decode cL_law 315 = .ok (.if_icmp .eq 357, 3) := by decide +kernel
theorem dL_law_318 : decode cL_law 318 = .ok (.iconst 0, 1) := by decide +kernel
theorem dL_law_319 : decode cL_law 319 = .ok (.ireturn, 1) := by decide +kernel
theorem dL_law_320 : decode cL_law 320 = .ok (.aload_n 1, 1) := by decide +kernel
theorem dL_law_321 : decode cL_law 321 = .ok (.aload_n 0, 1) := by decide +kernel
theorem dL_law_322 : decode cL_law 322 = .ok (.iload_n 3, 1) := by decide +kernel
theorem dL_law_323 : decode cL_law 323 = .ok (.iconst 1, 1) := by decide +kernel
theorem dL_law_324 : decode cL_law 324 = .ok (.iadd, 1) := by decide +kernel
theorem dL_law_325 : decode cL_law 325 = .ok (.iaload, 1) := by decide +kernel
theorem dL_law_326 : decode cL_law 326 = .ok (.aload_n 0, 1) := by decide +kernel
theorem dL_law_327 : decode cL_law 327 = .ok (.iload_n 3, 1) := by decide +kernel
theorem dL_law_328 : decode cL_law 328 = .ok (.iconst 2, 1) := by decide +kernel
theorem dL_law_329 : decode cL_law 329 = .ok (.iadd, 1) := by decide +kernel
theorem dL_law_330 : decode cL_law 330 = .ok (.iaload, 1) := by decide +kernel
theorem dL_law_331 : decode cL_law 331 = .ok (.invokevirtual 49, 3) := by decide +kernel
theorem dL_law_334 : decode cL_law 334 = .ok (.aload_n 2, 1) := by decide +kernel
theorem dL_law_335 : decode cL_law 335 = .ok (.aload_n 0, 1) := by decide +kernel
theorem dL_law_336 : decode cL_law 336 = .ok (.iload_n 3, 1) := by decide +kernel
theorem dL_law_337 : decode cL_law 337 = .ok (.iconst 1, 1) := by decide +kernel
theorem dL_law_338 : decode cL_law 338 = .ok (.iadd, 1) := by decide +kernel
theorem dL_law_339 : decode cL_law 339 = .ok (.iaload, 1) := by decide +kernel
theorem dL_law_340 : decode cL_law 340 = .ok (.aload_n 0, 1) := by decide +kernel
theorem dL_law_341 : decode cL_law 341 = .ok (.iload_n 3, 1) := by decide +kernel
theorem dL_law_342 : decode cL_law 342 = .ok (.iconst 2, 1) := by decide +kernel
theorem dL_law_343 : decode cL_law 343 = .ok (.iadd, 1) := by decide +kernel
theorem dL_law_344 : decode cL_law 344 = .ok (.iaload, 1) := by decide +kernel
theorem dL_law_345 : decode cL_law 345 = .ok (.invokevirtual 52, 3) := by decide +kernel
theorem dL_law_348 : decode cL_law 348 = .ok (.if_icmp .eq 324, 3) := by decide +kernel
theorem dL_law_351 : decode cL_law 351 = .ok (.iconst 0, 1) := by decide +kernel
theorem dL_law_352 : decode cL_law 352 = .ok (.ireturn, 1) := by decide +kernel
theorem dL_law_353 : decode cL_law 353 = .ok (.aload_n 1, 1) := by decide +kernel
theorem dL_law_354 : decode cL_law 354 = .ok (.aload_n 0, 1) := by decide +kernel
theorem dL_law_355 : decode cL_law 355 = .ok (.iload_n 3, 1) := by decide +kernel
theorem dL_law_356 : decode cL_law 356 = .ok (.iconst 1, 1) := by decide +kernel
theorem dL_law_357 : decode cL_law 357 = .ok (.iadd, 1) := by decide +kernel
theorem dL_law_358 : decode cL_law 358 = .ok (.iaload, 1) := by decide +kernel
theorem dL_law_359 : decode cL_law 359 = .ok (.invokevirtual 53, 3) := by decide +kernel
theorem dL_law_362 : decode cL_law 362 = .ok (.aload_n 2, 1) := by decide +kernel
theorem dL_law_363 : decode cL_law 363 = .ok (.aload_n 0, 1) := by decide +kernel
theorem dL_law_364 : decode cL_law 364 = .ok (.iload_n 3, 1) := by decide +kernel
theorem dL_law_365 : decode cL_law 365 = .ok (.iconst 1, 1) := by decide +kernel
theorem dL_law_366 : decode cL_law 366 = .ok (.iadd, 1) := by decide +kernel
theorem dL_law_367 : decode cL_law 367 = .ok (.iaload, 1) := by decide +kernel
theorem dL_law_368 : decode cL_law 368 = .ok (.invokevirtual 56, 3) := by decide +kernel
theorem dL_law_371 : decode cL_law 371 = .ok (.if_icmp .eq 301, 3) := by decide +kernel
theorem dL_law_374 : decode cL_law 374 = .ok (.iconst 0, 1) := by decide +kernel
theorem dL_law_375 : decode cL_law 375 = .ok (.ireturn, 1) := by decide +kernel
theorem dL_law_376 : decode cL_law 376 = .ok (.aload_n 1, 1) := by decide +kernel
theorem dL_law_377 : decode cL_law 377 = .ok (.aload_n 0, 1) := by decide +kernel
theorem dL_law_378 : decode cL_law 378 = .ok (.iload_n 3, 1) := by decide +kernel
theorem dL_law_379 : decode cL_law 379 = .ok (.iconst 1, 1) := by decide +kernel
theorem dL_law_380 : decode cL_law 380 = .ok (.iadd, 1) := by decide +kernel
theorem dL_law_381 : decode cL_law 381 = .ok (.iaload, 1) := by decide +kernel
theorem dL_law_382 : decode cL_law 382 = .ok (.aload_n 0, 1) := by decide +kernel
theorem dL_law_383 : decode cL_law 383 = .ok (.iload_n 3, 1) := by decide +kernel
theorem dL_law_384 : decode cL_law 384 = .ok (.iconst 2, 1) := by decide +kernel
theorem dL_law_385 : decode cL_law 385 = .ok (.iadd, 1) := by decide +kernel
theorem dL_law_386 : decode cL_law 386 = .ok (.iaload, 1) := by decide +kernel
theorem dL_law_387 : decode cL_law 387 = .ok (.invokevirtual 57, 3) := by decide +kernel
theorem dL_law_390 : decode cL_law 390 = .ok (.aload_n 2, 1) := by decide +kernel
theorem dL_law_391 : decode cL_law 391 = .ok (.aload_n 0, 1) := by decide +kernel
theorem dL_law_392 : decode cL_law 392 = .ok (.iload_n 3, 1) := by decide +kernel
theorem dL_law_393 : decode cL_law 393 = .ok (.iconst 1, 1) := by decide +kernel
theorem dL_law_394 : decode cL_law 394 = .ok (.iadd, 1) := by decide +kernel
theorem dL_law_395 : decode cL_law 395 = .ok (.iaload, 1) := by decide +kernel
theorem dL_law_396 : decode cL_law 396 = .ok (.aload_n 0, 1) := by decide +kernel
theorem dL_law_397 : decode cL_law 397 = .ok (.iload_n 3, 1) := by decide +kernel
theorem dL_law_398 : decode cL_law 398 = .ok (.iconst 2, 1) := by decide +kernel
theorem dL_law_399 : decode cL_law 399 = .ok (.iadd, 1) := by decide +kernel
theorem dL_law_400 : decode cL_law 400 = .ok (.iaload, 1) := by decide +kernel
theorem dL_law_401 : decode cL_law 401 = .ok (.invokevirtual 60, 3) := by decide +kernel
theorem dL_law_404 : decode cL_law 404 = .ok (.if_icmp .eq 268, 3) := by decide +kernel
theorem dL_law_407 : decode cL_law 407 = .ok (.iconst 0, 1) := by decide +kernel
theorem dL_law_408 : decode cL_law 408 = .ok (.ireturn, 1) := by decide +kernel
theorem dL_law_409 : decode cL_law 409 = .ok (.aload_n 1, 1) := by decide +kernel
theorem dL_law_410 : decode cL_law 410 = .ok (.aload_n 0, 1) := by decide +kernel
theorem dL_law_411 : decode cL_law 411 = .ok (.iload_n 3, 1) := by decide +kernel
theorem dL_law_412 : decode cL_law 412 = .ok (.iconst 1, 1) := by decide +kernel
theorem dL_law_413 : decode cL_law 413 = .ok (.iadd, 1) := by decide +kernel
theorem dL_law_414 : decode cL_law 414 = .ok (.iaload, 1) := by decide +kernel
theorem dL_law_415 : decode cL_law 415 = .ok (.aload_n 0, 1) := by decide +kernel
theorem dL_law_416 : decode cL_law 416 = .ok (.iload_n 3, 1) := by decide +kernel
theorem dL_law_417 : decode cL_law 417 = .ok (.iconst 2, 1) := by decide +kernel
theorem dL_law_418 : decode cL_law 418 = .ok (.iadd, 1) := by decide +kernel
theorem dL_law_419 : decode cL_law 419 = .ok (.iaload, 1) := by decide +kernel
theorem dL_law_420 : decode cL_law 420 = .ok (.aload_n 0, 1) := by decide +kernel
theorem dL_law_421 : decode cL_law 421 = .ok (.iload_n 3, 1) := by decide +kernel
theorem dL_law_422 : decode cL_law 422 = .ok (.iconst 3, 1) := by decide +kernel
theorem dL_law_423 : decode cL_law 423 = .ok (.iadd, 1) := by decide +kernel
theorem dL_law_424 : decode cL_law 424 = .ok (.iaload, 1) := by decide +kernel
theorem dL_law_425 : decode cL_law 425 = .ok (.invokevirtual 61, 3) := by decide +kernel
theorem dL_law_428 : decode cL_law 428 = .ok (.aload_n 2, 1) := by decide +kernel
theorem dL_law_429 : decode cL_law 429 = .ok (.aload_n 0, 1) := by decide +kernel
theorem dL_law_430 : decode cL_law 430 = .ok (.iload_n 3, 1) := by decide +kernel
theorem dL_law_431 : decode cL_law 431 = .ok (.iconst 1, 1) := by decide +kernel
theorem dL_law_432 : decode cL_law 432 = .ok (.iadd, 1) := by decide +kernel
theorem dL_law_433 : decode cL_law 433 = .ok (.iaload, 1) := by decide +kernel
theorem dL_law_434 : decode cL_law 434 = .ok (.aload_n 0, 1) := by decide +kernel
theorem dL_law_435 : decode cL_law 435 = .ok (.iload_n 3, 1) := by decide +kernel
theorem dL_law_436 : decode cL_law 436 = .ok (.iconst 2, 1) := by decide +kernel
theorem dL_law_437 : decode cL_law 437 = .ok (.iadd, 1) := by decide +kernel
theorem dL_law_438 : decode cL_law 438 = .ok (.iaload, 1) := by decide +kernel
theorem dL_law_439 : decode cL_law 439 = .ok (.aload_n 0, 1) := by decide +kernel
theorem dL_law_440 : decode cL_law 440 = .ok (.iload_n 3, 1) := by decide +kernel
theorem dL_law_441 : decode cL_law 441 = .ok (.iconst 3, 1) := by decide +kernel
theorem dL_law_442 : decode cL_law 442 = .ok (.iadd, 1) := by decide +kernel
theorem dL_law_443 : decode cL_law 443 = .ok (.iaload, 1) := by decide +kernel
theorem dL_law_444 : decode cL_law 444 = .ok (.invokevirtual 64, 3) := by decide +kernel
theorem dL_law_447 : decode cL_law 447 = .ok (.if_icmp .eq 225, 3) := by decide +kernel
theorem dL_law_450 : decode cL_law 450 = .ok (.iconst 0, 1) := by decide +kernel
theorem dL_law_451 : decode cL_law 451 = .ok (.ireturn, 1) := by decide +kernel
theorem dL_law_452 : decode cL_law 452 = .ok (.aload_n 1, 1) := by decide +kernel
theorem dL_law_453 : decode cL_law 453 = .ok (.aload_n 0, 1) := by decide +kernel
theorem dL_law_454 : decode cL_law 454 = .ok (.iload_n 3, 1) := by decide +kernel
theorem dL_law_455 : decode cL_law 455 = .ok (.iconst 1, 1) := by decide +kernel
theorem dL_law_456 : decode cL_law 456 = .ok (.iadd, 1) := by decide +kernel
theorem dL_law_457 : decode cL_law 457 = .ok (.iaload, 1) := by decide +kernel
theorem dL_law_458 : decode cL_law 458 = .ok (.aload_n 0, 1) := by decide +kernel
theorem dL_law_459 : decode cL_law 459 = .ok (.iload_n 3, 1) := by decide +kernel
theorem dL_law_460 : decode cL_law 460 = .ok (.iconst 2, 1) := by decide +kernel
theorem dL_law_461 : decode cL_law 461 = .ok (.iadd, 1) := by decide +kernel
theorem dL_law_462 : decode cL_law 462 = .ok (.iaload, 1) := by decide +kernel
theorem dL_law_463 : decode cL_law 463 = .ok (.aload_n 0, 1) := by decide +kernel
theorem dL_law_464 : decode cL_law 464 = .ok (.iload_n 3, 1) := by decide +kernel
theorem dL_law_465 : decode cL_law 465 = .ok (.iconst 3, 1) := by decide +kernel
theorem dL_law_466 : decode cL_law 466 = .ok (.iadd, 1) := by decide +kernel
theorem dL_law_467 : decode cL_law 467 = .ok (.iaload, 1) := by decide +kernel
theorem dL_law_468 : decode cL_law 468 = .ok (.invokevirtual 65, 3) := by decide +kernel
theorem dL_law_471 : decode cL_law 471 = .ok (.aload_n 2, 1) := by decide +kernel
theorem dL_law_472 : decode cL_law 472 = .ok (.aload_n 0, 1) := by decide +kernel
theorem dL_law_473 : decode cL_law 473 = .ok (.iload_n 3, 1) := by decide +kernel
theorem dL_law_474 : decode cL_law 474 = .ok (.iconst 1, 1) := by decide +kernel
theorem dL_law_475 : decode cL_law 475 = .ok (.iadd, 1) := by decide +kernel
theorem dL_law_476 : decode cL_law 476 = .ok (.iaload, 1) := by decide +kernel
theorem dL_law_477 : decode cL_law 477 = .ok (.aload_n 0, 1) := by decide +kernel
theorem dL_law_478 : decode cL_law 478 = .ok (.iload_n 3, 1) := by decide +kernel
theorem dL_law_479 : decode cL_law 479 = .ok (.iconst 2, 1) := by decide +kernel
theorem dL_law_480 : decode cL_law 480 = .ok (.iadd, 1) := by decide +kernel
theorem dL_law_481 : decode cL_law 481 = .ok (.iaload, 1) := by decide +kernel
theorem dL_law_482 : decode cL_law 482 = .ok (.aload_n 0, 1) := by decide +kernel
theorem dL_law_483 : decode cL_law 483 = .ok (.iload_n 3, 1) := by decide +kernel
theorem dL_law_484 : decode cL_law 484 = .ok (.iconst 3, 1) := by decide +kernel
theorem dL_law_485 : decode cL_law 485 = .ok (.iadd, 1) := by decide +kernel
theorem dL_law_486 : decode cL_law 486 = .ok (.iaload, 1) := by decide +kernel
theorem dL_law_487 : decode cL_law 487 = .ok (.invokevirtual 68, 3) := by decide +kernel
theorem dL_law_490 : decode cL_law 490 = .ok (.if_icmp .eq 182, 3) := by decide +kernel
theorem dL_law_493 : decode cL_law 493 = .ok (.iconst 0, 1) := by decide +kernel
theorem dL_law_494 : decode cL_law 494 = .ok (.ireturn, 1) := by decide +kernel
theorem dL_law_495 : decode cL_law 495 = .ok (.aload_n 1, 1) := by decide +kernel
theorem dL_law_496 : decode cL_law 496 = .ok (.aload_n 0, 1) := by decide +kernel
theorem dL_law_497 : decode cL_law 497 = .ok (.iload_n 3, 1) := by decide +kernel
theorem dL_law_498 : decode cL_law 498 = .ok (.iconst 1, 1) := by decide +kernel
theorem dL_law_499 : decode cL_law 499 = .ok (.iadd, 1) := by decide +kernel
theorem dL_law_500 : decode cL_law 500 = .ok (.iaload, 1) := by decide +kernel
theorem dL_law_501 : decode cL_law 501 = .ok (.aload_n 0, 1) := by decide +kernel
theorem dL_law_502 : decode cL_law 502 = .ok (.iload_n 3, 1) := by decide +kernel
theorem dL_law_503 : decode cL_law 503 = .ok (.iconst 2, 1) := by decide +kernel
theorem dL_law_504 : decode cL_law 504 = .ok (.iadd, 1) := by decide +kernel
theorem dL_law_505 : decode cL_law 505 = .ok (.iaload, 1) := by decide +kernel
theorem dL_law_506 : decode cL_law 506 = .ok (.invokevirtual 69, 3) := by decide +kernel
theorem dL_law_509 : decode cL_law 509 = .ok (.aload_n 2, 1) := by decide +kernel
theorem dL_law_510 : decode cL_law 510 = .ok (.aload_n 0, 1) := by decide +kernel
theorem dL_law_511 : decode cL_law 511 = .ok (.iload_n 3, 1) := by decide +kernel
theorem dL_law_512 : decode cL_law 512 = .ok (.iconst 1, 1) := by decide +kernel
theorem dL_law_513 : decode cL_law 513 = .ok (.iadd, 1) := by decide +kernel
theorem dL_law_514 : decode cL_law 514 = .ok (.iaload, 1) := by decide +kernel
theorem dL_law_515 : decode cL_law 515 = .ok (.aload_n 0, 1) := by decide +kernel
theorem dL_law_516 : decode cL_law 516 = .ok (.iload_n 3, 1) := by decide +kernel
theorem dL_law_517 : decode cL_law 517 = .ok (.iconst 2, 1) := by decide +kernel
theorem dL_law_518 : decode cL_law 518 = .ok (.iadd, 1) := by decide +kernel
theorem dL_law_519 : decode cL_law 519 = .ok (.iaload, 1) := by decide +kernel
theorem dL_law_520 : decode cL_law 520 = .ok (.invokevirtual 72, 3) := by decide +kernel
theorem dL_law_523 : decode cL_law 523 = .ok (.if_icmp .eq 149, 3) := by decide +kernel
theorem dL_law_526 : decode cL_law 526 = .ok (.iconst 0, 1) := by decide +kernel
theorem dL_law_527 : decode cL_law 527 = .ok (.ireturn, 1) := by decide +kernel
theorem dL_law_528 : decode cL_law 528 = .ok (.aload_n 1, 1) := by decide +kernel
theorem dL_law_529 : decode cL_law 529 = .ok (.aload_n 0, 1) := by decide +kernel
theorem dL_law_530 : decode cL_law 530 = .ok (.iload_n 3, 1) := by decide +kernel
theorem dL_law_531 : decode cL_law 531 = .ok (.iconst 1, 1) := by decide +kernel
theorem dL_law_532 : decode cL_law 532 = .ok (.iadd, 1) := by decide +kernel
theorem dL_law_533 : decode cL_law 533 = .ok (.iaload, 1) := by decide +kernel
theorem dL_law_534 : decode cL_law 534 = .ok (.invokevirtual 73, 3) := by decide +kernel
theorem dL_law_537 : decode cL_law 537 = .ok (.aload_n 2, 1) := by decide +kernel
theorem dL_law_538 : decode cL_law 538 = .ok (.aload_n 0, 1) := by decide +kernel
theorem dL_law_539 : decode cL_law 539 = .ok (.iload_n 3, 1) := by decide +kernel
theorem dL_law_540 : decode cL_law 540 = .ok (.iconst 1, 1) := by decide +kernel
theorem dL_law_541 : decode cL_law 541 = .ok (.iadd, 1) := by decide +kernel
theorem dL_law_542 : decode cL_law 542 = .ok (.iaload, 1) := by decide +kernel
theorem dL_law_543 : decode cL_law 543 = .ok (.invokevirtual 76, 3) := by decide +kernel
theorem dL_law_546 : decode cL_law 546 = .ok (.if_icmp .eq 126, 3) := by decide +kernel
theorem dL_law_549 : decode cL_law 549 = .ok (.iconst 0, 1) := by decide +kernel
theorem dL_law_550 : decode cL_law 550 = .ok (.ireturn, 1) := by decide +kernel
theorem dL_law_551 : decode cL_law 551 = .ok (.aload_n 1, 1) := by decide +kernel
theorem dL_law_552 : decode cL_law 552 = .ok (.aload_n 0, 1) := by decide +kernel
theorem dL_law_553 : decode cL_law 553 = .ok (.iload_n 3, 1) := by decide +kernel
theorem dL_law_554 : decode cL_law 554 = .ok (.iconst 1, 1) := by decide +kernel
theorem dL_law_555 : decode cL_law 555 = .ok (.iadd, 1) := by decide +kernel
theorem dL_law_556 : decode cL_law 556 = .ok (.iaload, 1) := by decide +kernel
theorem dL_law_557 : decode cL_law 557 = .ok (.invokevirtual 77, 3) := by decide +kernel
theorem dL_law_560 : decode cL_law 560 = .ok (.aload_n 2, 1) := by decide +kernel
theorem dL_law_561 : decode cL_law 561 = .ok (.aload_n 0, 1) := by decide +kernel
theorem dL_law_562 : decode cL_law 562 = .ok (.iload_n 3, 1) := by decide +kernel
theorem dL_law_563 : decode cL_law 563 = .ok (.iconst 1, 1) := by decide +kernel
theorem dL_law_564 : decode cL_law 564 = .ok (.iadd, 1) := by decide +kernel
theorem dL_law_565 : decode cL_law 565 = .ok (.iaload, 1) := by decide +kernel
theorem dL_law_566 : decode cL_law 566 = .ok (.invokevirtual 80, 3) := by decide +kernel
theorem dL_law_569 : decode cL_law 569 = .ok (.if_icmp .eq 103, 3) := by decide +kernel
theorem dL_law_572 : decode cL_law 572 = .ok (.iconst 0, 1) := by decide +kernel
theorem dL_law_573 : decode cL_law 573 = .ok (.ireturn, 1) := by decide +kernel
theorem dL_law_574 : decode cL_law 574 = .ok (.aload_n 1, 1) := by decide +kernel
theorem dL_law_575 : decode cL_law 575 = .ok (.invokevirtual 81, 3) := by decide +kernel
theorem dL_law_578 : decode cL_law 578 = .ok (.aload_n 2, 1) := by decide +kernel
theorem dL_law_579 : decode cL_law 579 = .ok (.invokevirtual 84, 3) := by decide +kernel
theorem dL_law_582 : decode cL_law 582 = .ok (.if_icmp .eq 90, 3) := by decide +kernel
theorem dL_law_585 : decode cL_law 585 = .ok (.iconst 0, 1) := by decide +kernel
theorem dL_law_586 : decode cL_law 586 = .ok (.ireturn, 1) := by decide +kernel
theorem dL_law_587 : decode cL_law 587 = .ok (.aload_n 1, 1) := by decide +kernel
theorem dL_law_588 : decode cL_law 588 = .ok (.invokevirtual 85, 3) := by decide +kernel
theorem dL_law_591 : decode cL_law 591 = .ok (.aload_n 2, 1) := by decide +kernel
theorem dL_law_592 : decode cL_law 592 = .ok (.invokevirtual 88, 3) := by decide +kernel
theorem dL_law_595 : decode cL_law 595 = .ok (.if_icmp .eq 77, 3) := by decide +kernel
theorem dL_law_598 : decode cL_law 598 = .ok (.iconst 0, 1) := by decide +kernel
theorem dL_law_599 : decode cL_law 599 = .ok (.ireturn, 1) := by decide +kernel
theorem dL_law_600 : decode cL_law 600 = .ok (.aload_n 1, 1) := by decide +kernel
theorem dL_law_601 : decode cL_law 601 = .ok (.aload_n 0, 1) := by decide +kernel
theorem dL_law_602 : decode cL_law 602 = .ok (.iload_n 3, 1) := by decide +kernel
theorem dL_law_603 : decode cL_law 603 = .ok (.iconst 1, 1) := by decide +kernel
theorem dL_law_604 : decode cL_law 604 = .ok (.iadd, 1) := by decide +kernel
theorem dL_law_605 : decode cL_law 605 = .ok (.iaload, 1) := by decide +kernel
theorem dL_law_606 : decode cL_law 606 = .ok (.invokevirtual 89, 3) := by decide +kernel
theorem dL_law_609 : decode cL_law 609 = .ok (.aload_n 2, 1) := by decide +kernel
theorem dL_law_610 : decode cL_law 610 = .ok (.aload_n 0, 1) := by decide +kernel
theorem dL_law_611 : decode cL_law 611 = .ok (.iload_n 3, 1) := by decide +kernel
theorem dL_law_612 : decode cL_law 612 = .ok (.iconst 1, 1) := by decide +kernel
theorem dL_law_613 : decode cL_law 613 = .ok (.iadd, 1) := by decide +kernel
theorem dL_law_614 : decode cL_law 614 = .ok (.iaload, 1) := by decide +kernel
theorem dL_law_615 : decode cL_law 615 = .ok (.invokevirtual 92, 3) := by decide +kernel
theorem dL_law_618 : decode cL_law 618 = .ok (.if_icmp .eq 54, 3) := by decide +kernel
theorem dL_law_621 : decode cL_law 621 = .ok (.iconst 0, 1) := by decide +kernel
theorem dL_law_622 : decode cL_law 622 = .ok (.ireturn, 1) := by decide +kernel
theorem dL_law_623 : decode cL_law 623 = .ok (.aload_n 1, 1) := by decide +kernel
theorem dL_law_624 : decode cL_law 624 = .ok (.invokevirtual 93, 3) := by decide +kernel
theorem dL_law_627 : decode cL_law 627 = .ok (.aload_n 2, 1) := by decide +kernel
theorem dL_law_628 : decode cL_law 628 = .ok (.invokevirtual 96, 3) := by decide +kernel
theorem dL_law_631 : decode cL_law 631 = .ok (.if_icmp .eq 41, 3) := by decide +kernel
theorem dL_law_634 : decode cL_law 634 = .ok (.iconst 0, 1) := by decide +kernel
theorem dL_law_635 : decode cL_law 635 = .ok (.ireturn, 1) := by decide +kernel
theorem dL_law_636 : decode cL_law 636 = .ok (.aload_n 1, 1) := by decide +kernel
theorem dL_law_637 : decode cL_law 637 = .ok (.aload_n 0, 1) := by decide +kernel
theorem dL_law_638 : decode cL_law 638 = .ok (.iload_n 3, 1) := by decide +kernel
theorem dL_law_639 : decode cL_law 639 = .ok (.iconst 1, 1) := by decide +kernel
theorem dL_law_640 : decode cL_law 640 = .ok (.iadd, 1) := by decide +kernel
theorem dL_law_641 : decode cL_law 641 = .ok (.iaload, 1) := by decide +kernel
theorem dL_law_642 : decode cL_law 642 = .ok (.invokevirtual 97, 3) := by decide +kernel
theorem dL_law_645 : decode cL_law 645 = .ok (.aload_n 2, 1) := by decide +kernel
theorem dL_law_646 : decode cL_law 646 = .ok (.aload_n 0, 1) := by decide +kernel
theorem dL_law_647 : decode cL_law 647 = .ok (.iload_n 3, 1) := by decide +kernel
theorem dL_law_648 : decode cL_law 648 = .ok (.iconst 1, 1) := by decide +kernel
theorem dL_law_649 : decode cL_law 649 = .ok (.iadd, 1) := by decide +kernel
theorem dL_law_650 : decode cL_law 650 = .ok (.iaload, 1) := by decide +kernel
theorem dL_law_651 : decode cL_law 651 = .ok (.invokevirtual 100, 3) := by decide +kernel
theorem dL_law_654 : decode cL_law 654 = .ok (.if_icmp .eq 18, 3) := by decide +kernel
theorem dL_law_657 : decode cL_law 657 = .ok (.iconst 0, 1) := by decide +kernel
theorem dL_law_658 : decode cL_law 658 = .ok (.ireturn, 1) := by decide +kernel
theorem dL_law_659 : decode cL_law 659 = .ok (.aload_n 1, 1) := by decide +kernel
theorem dL_law_660 : decode cL_law 660 = .ok (.invokevirtual 101, 3) := by decide +kernel
theorem dL_law_663 : decode cL_law 663 = .ok (.aload_n 2, 1) := by decide +kernel
theorem dL_law_664 : decode cL_law 664 = .ok (.invokevirtual 104, 3) := by decide +kernel
theorem dL_law_667 : decode cL_law 667 = .ok (.if_icmp .eq 5, 3) := by decide +kernel
theorem dL_law_670 : decode cL_law 670 = .ok (.iconst 0, 1) := by decide +kernel
theorem dL_law_671 : decode cL_law 671 = .ok (.ireturn, 1) := by decide +kernel
theorem dL_law_672 : decode cL_law 672 = .ok (.iinc 3 4, 3) := by decide +kernel
theorem dL_law_675 : decode cL_law 675 = .ok (.goto (-657), 3) := by decide +kernel
theorem dL_law_678 : decode cL_law 678 = .ok (.iconst 1, 1) := by decide +kernel
theorem dL_law_679 : decode cL_law 679 = .ok (.ireturn, 1) := by decide +kernel
