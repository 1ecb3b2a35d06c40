theorem dX0_init_0 : decode cX0_init 0 = .ok (.aload_n 0, 1) := by decide +kernel
theorem dX0_init_1 : decode cX0_init 1 = .ok (.invokespecial 3, 3) := by decide +kernel
theorem dX0_init_4 : decode cX0_init 4 = .ok (.aload_n 0, 1) := by decide +kernel
theorem dX0_init_5 : decode cX0_init 5 = .ok (.bipush 48, 2) := by decide +kernel
theorem dX0_init_7 : decode cX0_init 7 = .ok (.newarray .int, 2) := by decide +kernel
theorem dX0_init_9 : decode cX0_init 9 = .ok (.putfield 9, 3) := by decide +kernel
theorem dX0_init_12 : decode cX0_init 12 = .ok (.aload_n 0, 1) := by decide +kernel
theorem dX0_init_13 : decode cX0_init 13 = .ok (.bipush 48, 2) := by decide +kernel
theorem dX0_init_15 : decode cX0_init 15 = .ok (.newarray .int, 2) := by decide +kernel
theorem dX0_init_17 : decode cX0_init 17 = .ok (.putfield 15, 3) := by decide +kernel
theorem dX0_init_20 : decode cX0_init 20 = .ok (.aload_n 0, 1) := by decide +kernel
theorem dX0_init_21 : decode cX0_init 21 = .ok (.bipush 48, 2) := by decide +kernel
theorem dX0_init_23 : decode cX0_init 23 = .ok (.newarray .int, 2) := by decide +kernel
theorem dX0_init_25 : decode cX0_init 25 = .ok (.putfield 18, 3) := by decide +kernel
theorem dX0_init_28 : decode cX0_init 28 = .ok (.aload_n 0, 1) := by decide +kernel
theorem dX0_init_29 : decode cX0_init 29 = .ok (.bipush 48, 2) := by decide +kernel
theorem dX0_init_31 : decode cX0_init 31 = .ok (.newarray .int, 2) := by decide +kernel
theorem dX0_init_33 : decode cX0_init 33 = .ok (.putfield 21, 3) := by decide +kernel
theorem dX0_init_36 : decode cX0_init 36 = .ok (.return_, 1) := by decide +kernel
theorem dX0_copyFrom_0 : decode cX0_copyFrom 0 = .ok (.aload_n 1, 1) := by decide +kernel
theorem dX0_copyFrom_1 : decode cX0_copyFrom 1 = .ok (.getfield 9, 3) := by decide +kernel
theorem dX0_copyFrom_4 : decode cX0_copyFrom 4 = .ok (.aload_n 0, 1) := by decide +kernel
theorem dX0_copyFrom_5 : decode cX0_copyFrom 5 = .ok (.getfield 9, 3) := by decide +kernel
theorem dX0_copyFrom_8 : decode cX0_copyFrom 8 = .ok (.invokestatic 24, 3) := by decide +kernel
theorem dX0_copyFrom_11 : decode cX0_copyFrom 11 = .ok (.aload_n 1, 1) := by decide +kernel
theorem dX0_copyFrom_12 : decode cX0_copyFrom 12 = .ok (.getfield 15, 3) := by decide +kernel
theorem dX0_copyFrom_15 : decode cX0_copyFrom 15 = .ok (.aload_n 0, 1) := by decide +kernel
theorem dX0_copyFrom_16 : decode cX0_copyFrom 16 = .ok (.getfield 15, 3) := by decide +kernel
theorem dX0_copyFrom_19 : decode cX0_copyFrom 19 = .ok (.invokestatic 24, 3) := by decide +kernel
theorem dX0_copyFrom_22 : decode cX0_copyFrom 22 = .ok (.aload_n 1, 1) := by decide +kernel
theorem dX0_copyFrom_23 : decode cX0_copyFrom 23 = .ok (.getfield 18, 3) := by decide +kernel
theorem dX0_copyFrom_26 : decode cX0_copyFrom 26 = .ok (.aload_n 0, 1) := by decide +kernel
theorem dX0_copyFrom_27 : decode cX0_copyFrom 27 = .ok (.getfield 18, 3) := by decide +kernel
theorem dX0_copyFrom_30 : decode cX0_copyFrom 30 = .ok (.invokestatic 24, 3) := by decide +kernel
theorem dX0_copyFrom_33 : decode cX0_copyFrom 33 = .ok (.aload_n 1, 1) := by decide +kernel
theorem dX0_copyFrom_34 : decode cX0_copyFrom 34 = .ok (.getfield 21, 3) := by decide +kernel
theorem dX0_copyFrom_37 : decode cX0_copyFrom 37 = .ok (.aload_n 0, 1) := by decide +kernel
theorem dX0_copyFrom_38 : decode cX0_copyFrom 38 = .ok (.getfield 21, 3) := by decide +kernel
theorem dX0_copyFrom_41 : decode cX0_copyFrom 41 = .ok (.invokestatic 24, 3) := by decide +kernel
theorem dX0_copyFrom_44 : decode cX0_copyFrom 44 = .ok (.return_, 1) := by decide +kernel
theorem dX0_kind_0 : decode cX0_kind 0 = .ok (.iload_n 1, 1) := by decide +kernel
theorem dX0_kind_1 : decode cX0_kind 1 = .ok (.ifCond .lt 18, 3) := by decide +kernel
theorem dX0_kind_4 : decode cX0_kind 4 = .ok (.iload_n 1, 1) := by decide +kernel
theorem dX0_kind_5 : decode cX0_kind 5 = .ok (.bipush 48, 2) := by decide +kernel
theorem dX0_kind_7 : decode cX0_kind 7 = .ok (.if_icmp .ge 12, 3) := by decide +kernel
theorem dX0_kind_10 : decode cX0_kind 10 = .ok (.aload_n 0, 1) := by decide +kernel
theorem dX0_kind_11 : decode cX0_kind 11 = .ok (.getfield 9, 3) := by decide +kernel
theorem dX0_kind_14 : decode cX0_kind 14 = .ok (.iload_n 1, 1) := by decide +kernel
theorem dX0_kind_15 : decode cX0_kind 15 = .ok (.iaload, 1) := by decide +kernel
theorem dX0_kind_16 : decode cX0_kind 16 = .ok (.goto 4, 3) := by decide +kernel
theorem dX0_kind_19 : decode cX0_kind 19 = .ok (.iconst 0, 1) := by decide +kernel
theorem dX0_kind_20 : decode cX0_kind 20 = .ok (.ireturn, 1) := by decide +kernel
theorem dX0_key_0 : decode cX0_key 0 = .ok (.iload_n 1, 1) := by decide +kernel
theorem dX0_key_1 : decode cX0_key 1 = .ok (.ifCond .lt 18, 3) := by decide +kernel
theorem dX0_key_4 : decode cX0_key 4 = .ok (.iload_n 1, 1) := by decide +kernel
theorem dX0_key_5 : decode cX0_key 5 = .ok (.bipush 48, 2) := by decide +kernel
theorem dX0_key_7 : decode cX0_key 7 = .ok (.if_icmp .ge 12, 3) := by decide +kernel
theorem dX0_key_10 : decode cX0_key 10 = .ok (.aload_n 0, 1) := by decide +kernel
theorem dX0_key_11 : decode cX0_key 11 = .ok (.getfield 15, 3) := by decide +kernel
theorem dX0_key_14 : decode cX0_key 14 = .ok (.iload_n 1, 1) := by decide +kernel
theorem dX0_key_15 : decode cX0_key 15 = .ok (.iaload, 1) := by decide +kernel
theorem dX0_key_16 : decode cX0_key 16 = .ok (.goto 4, 3) := by decide +kernel
theorem dX0_key_19 : decode cX0_key 19 = .ok (.iconst (-1), 1) := by decide +kernel
theorem dX0_key_20 : decode cX0_key 20 = .ok (.ireturn, 1) := by decide +kernel
theorem dX0_value_0 : decode cX0_value 0 = .ok (.iload_n 1, 1) := by decide +kernel
theorem dX0_value_1 : decode cX0_value 1 = .ok (.ifCond .lt 18, 3) := by decide +kernel
theorem dX0_value_4 : decode cX0_value 4 = .ok (.iload_n 1, 1) := by decide +kernel
theorem dX0_value_5 : decode cX0_value 5 = .ok (.bipush 48, 2) := by decide +kernel
theorem dX0_value_7 : decode cX0_value 7 = .ok (.if_icmp .ge 12, 3) := by decide +kernel
theorem dX0_value_10 : decode cX0_value 10 = .ok (.aload_n 0, 1) := by decide +kernel
theorem dX0_value_11 : decode cX0_value 11 = .ok (.getfield 18, 3) := by decide +kernel
theorem dX0_value_14 : decode cX0_value 14 = .ok (.iload_n 1, 1) := by decide +kernel
theorem dX0_value_15 : decode cX0_value 15 = .ok (.iaload, 1) := by decide +kernel
theorem dX0_value_16 : decode cX0_value 16 = .ok (.goto 4, 3) := by decide +kernel
theorem dX0_value_19 : decode cX0_value 19 = .ok (.iconst 0, 1) := by decide +kernel
theorem dX0_value_20 : decode cX0_value 20 = .ok (.ireturn, 1) := by decide +kernel
theorem dX0_stamp_0 : decode cX0_stamp 0 = .ok (.iload_n 1, 1) := by decide +kernel
theorem dX0_stamp_1 : decode cX0_stamp 1 = .ok (.ifCond .lt 18, 3) := by decide +kernel
theorem dX0_stamp_4 : decode cX0_stamp 4 = .ok (.iload_n 1, 1) := by decide +kernel
theorem dX0_stamp_5 : decode cX0_stamp 5 = .ok (.bipush 48, 2) := by decide +kernel
theorem dX0_stamp_7 : decode cX0_stamp 7 = .ok (.if_icmp .ge 12, 3) := by decide +kernel
theorem dX0_stamp_10 : decode cX0_stamp 10 = .ok (.aload_n 0, 1) := by decide +kernel
theorem dX0_stamp_11 : decode cX0_stamp 11 = .ok (.getfield 21, 3) := by decide +kernel
theorem dX0_stamp_14 : decode cX0_stamp 14 = .ok (.iload_n 1, 1) := by decide +kernel
theorem dX0_stamp_15 : decode cX0_stamp 15 = .ok (.iaload, 1) := by decide +kernel
theorem dX0_stamp_16 : decode cX0_stamp 16 = .ok (.goto 4, 3) := by decide +kernel
theorem dX0_stamp_19 : decode cX0_stamp 19 = .ok (.iconst 0, 1) := by decide +kernel
theorem dX0_stamp_20 : decode cX0_stamp 20 = .ok (.ireturn, 1) := by decide +kernel
theorem dX0_fact_0 : decode cX0_fact 0 = .ok (.iload_n 2, 1) := by decide +kernel
theorem dX0_fact_1 : decode cX0_fact 1 = .ok (.iconst 1, 1) := by decide +kernel
theorem dX0_fact_2 : decode cX0_fact 2 = .ok (.if_icmp .ne 9, 3) := by decide +kernel
theorem dX0_fact_5 : decode cX0_fact 5 = .ok (.aload_n 0, 1) := by decide +kernel
theorem dX0_fact_6 : decode cX0_fact 6 = .ok (.iload_n 1, 1) := by decide +kernel
theorem dX0_fact_7 : decode cX0_fact 7 = .ok (.invokevirtual 28, 3) := by decide +kernel
theorem dX0_fact_10 : decode cX0_fact 10 = .ok (.ireturn, 1) := by decide +kernel
theorem dX0_fact_11 : decode cX0_fact 11 = .ok (.iload_n 2, 1) := by decide +kernel
theorem dX0_fact_12 : decode cX0_fact 12 = .ok (.iconst 2, 1) := by decide +kernel
theorem dX0_fact_13 : decode cX0_fact 13 = .ok (.if_icmp .ne 11, 3) := by decide +kernel
theorem dX0_fact_16 : decode cX0_fact 16 = .ok (.aload_n 0, 1) := by decide +kernel
theorem dX0_fact_17 : decode cX0_fact 17 = .ok (.iload_n 1, 1) := by decide +kernel
theorem dX0_fact_18 : decode cX0_fact 18 = .ok (.invokevirtual 32, 3) := by decide +kernel
theorem dX0_fact_21 : decode cX0_fact 21 = .ok (.goto 8, 3) := by decide +kernel
theorem dX0_fact_24 : decode cX0_fact 24 = .ok (.aload_n 0, 1) := by decide +kernel
theorem dX0_fact_25 : decode cX0_fact 25 = .ok (.iload_n 1, 1) := by decide +kernel
theorem dX0_fact_26 : decode cX0_fact 26 = .ok (.invokevirtual 35, 3) := by decide +kernel
theorem dX0_fact_29 : decode cX0_fact 29 = .ok (.ireturn, 1) := by decide +kernel
theorem dX0_begin_0 : decode cX0_begin 0 = .ok (.iload_n 1, 1) := by decide +kernel
theorem dX0_begin_1 : decode cX0_begin 1 = .ok (.ifCond .lt 38, 3) := by decide +kernel
theorem dX0_begin_4 : decode cX0_begin 4 = .ok (.iload_n 1, 1) := by decide +kernel
theorem dX0_begin_5 : decode cX0_begin 5 = .ok (.bipush 48, 2) := by decide +kernel
theorem dX0_begin_7 : decode cX0_begin 7 = .ok (.if_icmp .ge 32, 3) := by decide +kernel
theorem dX0_begin_10 : decode cX0_begin 10 = .ok (.aload_n 0, 1) := by decide +kernel
theorem dX0_begin_11 : decode cX0_begin 11 = .ok (.getfield 9, 3) := by decide +kernel
theorem dX0_begin_14 : decode cX0_begin 14 = .ok (.iload_n 1, 1) := by decide +kernel
theorem dX0_begin_15 : decode cX0_begin 15 = .ok (.iconst 1, 1) := by decide +kernel
theorem dX0_begin_16 : decode cX0_begin 16 = .ok (.iastore, 1) := by decide +kernel
theorem dX0_begin_17 : decode cX0_begin 17 = .ok (.aload_n 0, 1) := by decide +kernel
theorem dX0_begin_18 : decode cX0_begin 18 = .ok (.getfield 15, 3) := by decide +kernel
theorem dX0_begin_21 : decode cX0_begin 21 = .ok (.iload_n 1, 1) := by decide +kernel
theorem dX0_begin_22 : decode cX0_begin 22 = .ok (.iload_n 2, 1) := by decide +kernel
theorem dX0_begin_23 : decode cX0_begin 23 = .ok (.iastore, 1) := by decide +kernel
theorem dX0_begin_24 : decode cX0_begin 24 = .ok (.aload_n 0, 1) := by decide +kernel
theorem dX0_begin_25 : decode cX0_begin 25 = .ok (.getfield 18, 3) := by decide +kernel
theorem dX0_begin_28 : decode cX0_begin 28 = .ok (.iload_n 1, 1) := by decide +kernel
theorem dX0_begin_29 : decode cX0_begin 29 = .ok (.iload_n 3, 1) := by decide +kernel
theorem dX0_begin_30 : decode cX0_begin 30 = .ok (.iastore, 1) := by decide +kernel
theorem dX0_begin_31 : decode cX0_begin 31 = .ok (.aload_n 0, 1) := by decide +kernel
theorem dX0_begin_32 : decode cX0_begin 32 = .ok (.getfield 21, 3) := by decide +kernel
theorem dX0_begin_35 : decode cX0_begin 35 = .ok (.iload_n 1, 1) := by decide +kernel
theorem dX0_begin_36 : decode cX0_begin 36 = .ok (.iload 4, 2) := by decide +kernel
theorem dX0_begin_38 : decode cX0_begin 38 = .ok (.iastore, 1) := by decide +kernel
theorem dX0_begin_39 : decode cX0_begin 39 = .ok (.return_, 1) := by decide +kernel
theorem dX0_beginBackup_0 : decode cX0_beginBackup 0 = .ok (.iload_n 1, 1) := by decide +kernel
theorem dX0_beginBackup_1 : decode cX0_beginBackup 1 = .ok (.ifCond .lt 62, 3) := by decide +kernel
theorem dX0_beginBackup_4 : decode cX0_beginBackup 4 = .ok (.iload_n 1, 1) := by decide +kernel
theorem dX0_beginBackup_5 : decode cX0_beginBackup 5 = .ok (.bipush 48, 2) := by decide +kernel
theorem dX0_beginBackup_7 : decode cX0_beginBackup 7 = .ok (.if_icmp .ge 56, 3) := by decide +kernel
theorem dX0_beginBackup_10 : decode cX0_beginBackup 10 = .ok (.iload_n 2, 1) := by decide +kernel
theorem dX0_beginBackup_11 : decode cX0_beginBackup 11 = .ok (.ifCond .lt 52, 3) := by decide +kernel
theorem dX0_beginBackup_14 : decode cX0_beginBackup 14 = .ok (.iload_n 2, 1) := by decide +kernel
theorem dX0_beginBackup_15 : decode cX0_beginBackup 15 = .ok (.bipush 48, 2) := by decide +kernel
theorem dX0_beginBackup_17 : decode cX0_beginBackup 17 = .ok (.if_icmp .ge 46, 3) := by decide +kernel
theorem dX0_beginBackup_20 : decode cX0_beginBackup 20 = .ok (.aload_n 0, 1) := by decide +kernel
theorem dX0_beginBackup_21 : decode cX0_beginBackup 21 = .ok (.getfield 9, 3) := by decide +kernel
theorem dX0_beginBackup_24 : decode cX0_beginBackup 24 = .ok (.iload_n 2, 1) := by decide +kernel
theorem dX0_beginBackup_25 : decode cX0_beginBackup 25 = .ok (.iconst 1, 1) := by decide +kernel
theorem dX0_beginBackup_26 : decode cX0_beginBackup 26 = .ok (.iastore, 1) := by decide +kernel
theorem dX0_beginBackup_27 : decode cX0_beginBackup 27 = .ok (.aload_n 0, 1) := by decide +kernel
theorem dX0_beginBackup_28 : decode cX0_beginBackup 28 = .ok (.getfield 15, 3) := by decide +kernel
theorem dX0_beginBackup_31 : decode cX0_beginBackup 31 = .ok (.iload_n 2, 1) := by decide +kernel
theorem dX0_beginBackup_32 : decode cX0_beginBackup 32 = .ok (.aload_n 0, 1) := by decide +kernel
theorem dX0_beginBackup_33 : decode cX0_beginBackup 33 = .ok (.getfield 15, 3) := by decide +kernel
theorem dX0_beginBackup_36 : decode cX0_beginBackup 36 = .ok (.iload_n 1, 1) := by decide +kernel
theorem dX0_beginBackup_37 : decode cX0_beginBackup 37 = .ok (.iaload, 1) := by decide +kernel
theorem dX0_beginBackup_38 : decode cX0_beginBackup 38 = .ok (.iastore, 1) := by decide +kernel
theorem dX0_beginBackup_39 : decode cX0_beginBackup 39 = .ok (.aload_n 0, 1) := by decide +kernel
theorem dX0_beginBackup_40 : decode cX0_beginBackup 40 = .ok (.getfield 18, 3) := by decide +kernel
theorem dX0_beginBackup_43 : decode cX0_beginBackup 43 = .ok (.iload_n 2, 1) := by decide +kernel
theorem dX0_beginBackup_44 : decode cX0_beginBackup 44 = .ok (.aload_n 0, 1) := by decide +kernel
theorem dX0_beginBackup_45 : decode cX0_beginBackup 45 = .ok (.getfield 18, 3) := by decide +kernel
theorem dX0_beginBackup_48 : decode cX0_beginBackup 48 = .ok (.iload_n 1, 1) := by decide +kernel
theorem dX0_beginBackup_49 : decode cX0_beginBackup 49 = .ok (.iaload, 1) := by decide +kernel
theorem dX0_beginBackup_50 : decode cX0_beginBackup 50 = .ok (.iastore, 1) := by decide +kernel
theorem dX0_beginBackup_51 : decode cX0_beginBackup 51 = .ok (.aload_n 0, 1) := by decide +kernel
theorem dX0_beginBackup_52 : decode cX0_beginBackup 52 = .ok (.getfield 21, 3) := by decide +kernel
theorem dX0_beginBackup_55 : decode cX0_beginBackup 55 = .ok (.iload_n 2, 1) := by decide +kernel
theorem dX0_beginBackup_56 : decode cX0_beginBackup 56 = .ok (.aload_n 0, 1) := by decide +kernel
theorem dX0_beginBackup_57 : decode cX0_beginBackup 57 = .ok (.getfield 21, 3) := by decide +kernel
theorem dX0_beginBackup_60 : decode cX0_beginBackup 60 = .ok (.iload_n 1, 1) := by decide +kernel
theorem dX0_beginBackup_61 : decode cX0_beginBackup 61 = .ok (.iaload, 1) := by decide +kernel
theorem dX0_beginBackup_62 : decode cX0_beginBackup 62 = .ok (.iastore, 1) := by decide +kernel
theorem dX0_beginBackup_63 : decode cX0_beginBackup 63 = .ok (.return_, 1) := by decide +kernel
theorem dX0_mark_0 : decode cX0_mark 0 = .ok (.iload_n 1, 1) := by decide +kernel
theorem dX0_mark_1 : decode cX0_mark 1 = .ok (.ifCond .lt 16, 3) := by decide +kernel
theorem dX0_mark_4 : decode cX0_mark 4 = .ok (.iload_n 1, 1) := by decide +kernel
theorem dX0_mark_5 : decode cX0_mark 5 = .ok (.bipush 48, 2) := by decide +kernel
theorem dX0_mark_7 : decode cX0_mark 7 = .ok (.if_icmp .ge 10, 3) := by decide +kernel
theorem dX0_mark_10 : decode cX0_mark 10 = .ok (.aload_n 0, 1) := by decide +kernel
theorem dX0_mark_11 : decode cX0_mark 11 = .ok (.getfield 9, 3) := by decide +kernel
theorem dX0_mark_14 : decode cX0_mark 14 = .ok (.iload_n 1, 1) := by decide +kernel
theorem dX0_mark_15 : decode cX0_mark 15 = .ok (.iload_n 2, 1) := by decide +kernel
theorem dX0_mark_16 : decode cX0_mark 16 = .ok (.iastore, 1) := by decide +kernel
theorem dX0_mark_17 : decode cX0_mark 17 = .ok (.return_, 1) := by decide +kernel
theorem dX0_blankBlock_0 : decode cX0_blankBlock 0 = .ok (.iconst 0, 1) := by decide +kernel
theorem dX0_blankBlock_1 : decode cX0_blankBlock 1 = .ok (.istore_n 2, 1) := by decide +kernel
theorem dX0_blankBlock_2 : decode cX0_blankBlock 2 = .ok (.iload_n 2, 1) := by decide +kernel
theorem dX0_blankBlock_3 : decode cX0_blankBlock 3 = .ok (.bipush 24, 2) := by decide +kernel
theorem dX0_blankBlock_5 : decode cX0_blankBlock 5 = .ok (.if_icmp .ge 19, 3) := by decide +kernel
theorem dX0_blankBlock_8 : decode cX0_blankBlock 8 = .ok (.aload_n 0, 1) := by decide +kernel
theorem dX0_blankBlock_9 : decode cX0_blankBlock 9 = .ok (.iload_n 1, 1) := by decide +kernel
theorem dX0_blankBlock_10 : decode cX0_blankBlock 10 = .ok (.iload_n 2, 1) := by decide +kernel
theorem dX0_blankBlock_11 : decode cX0_blankBlock 11 = .ok (.invokestatic 38, 3) := by decide +kernel
theorem dX0_blankBlock_14 : decode cX0_blankBlock 14 = .ok (.iconst 0, 1) := by decide +kernel
theorem dX0_blankBlock_15 : decode cX0_blankBlock 15 = .ok (.invokevirtual 42, 3) := by decide +kernel
theorem dX0_blankBlock_18 : decode cX0_blankBlock 18 = .ok (.iinc 2 1, 3) := by decide +kernel
theorem dX0_blankBlock_21 : decode cX0_blankBlock 21 = .ok (.goto (-19), 3) := by decide +kernel
theorem dX0_blankBlock_24 : decode cX0_blankBlock 24 = .ok (.return_, 1) := by decide +kernel
theorem dX0_isBlankBlock_0 : decode cX0_isBlankBlock 0 = .ok (.iconst 0, 1) := by decide +kernel
theorem dX0_isBlankBlock_1 : decode cX0_isBlankBlock 1 = .ok (.istore_n 2, 1) := by decide +kernel
theorem dX0_isBlankBlock_2 : decode cX0_isBlankBlock 2 = .ok (.iload_n 2, 1) := by decide +kernel
theorem dX0_isBlankBlock_3 : decode cX0_isBlankBlock 3 = .ok (.bipush 16, 2) := by decide +kernel
theorem dX0_isBlankBlock_5 : decode cX0_isBlankBlock 5 = .ok (.if_icmp .ge 23, 3) := by decide +kernel
theorem dX0_isBlankBlock_8 : decode cX0_isBlankBlock 8 = .ok (.aload_n 0, 1) := by decide +kernel
theorem dX0_isBlankBlock_9 : decode cX0_isBlankBlock 9 = .ok (.iload_n 1, 1) := by decide +kernel
theorem dX0_isBlankBlock_10 : decode cX0_isBlankBlock 10 = .ok (.iload_n 2, 1) := by decide +kernel
theorem dX0_isBlankBlock_11 : decode cX0_isBlankBlock 11 = .ok (.invokestatic 38, 3) := by decide +kernel
theorem dX0_isBlankBlock_14 : decode cX0_isBlankBlock 14 = .ok (.invokevirtual 46, 3) := by decide +kernel
theorem dX0_isBlankBlock_17 : decode cX0_isBlankBlock 17 = .ok (.ifCond .eq 5, 3) := by decide +kernel
theorem dX0_isBlankBlock_20 : decode cX0_isBlankBlock 20 = .ok (.iconst 0, 1) := by decide +kernel
theorem dX0_isBlankBlock_21 : decode cX0_isBlankBlock 21 = .ok (.ireturn, 1) := by decide +kernel
theorem dX0_isBlankBlock_22 : decode cX0_isBlankBlock 22 = .ok (.iinc 2 1, 3) := by decide +kernel
theorem dX0_isBlankBlock_25 : decode cX0_isBlankBlock 25 = .ok (.goto (-23), 3) := by decide +kernel
theorem dX0_isBlankBlock_28 : decode cX0_isBlankBlock 28 = .ok (.iconst 1, 1) := by decide +kernel
theorem dX0_isBlankBlock_29 : decode cX0_isBlankBlock 29 = .ok (.ireturn, 1) := by decide +kernel
theorem dX0_place_0 : decode cX0_place 0 = .ok (.iconst (-1), 1) := by decide +kernel
theorem dX0_place_1 : decode cX0_place 1 = .ok (.istore_n 2, 1) := by decide +kernel
theorem dX0_place_2 : decode cX0_place 2 = .ok (.iconst 0, 1) := by decide +kernel
theorem dX0_place_3 : decode cX0_place 3 = .ok (.istore_n 3, 1) := by decide +kernel
theorem dX0_place_4 : decode cX0_place 4 = .ok (.iconst 0, 1) := by decide +kernel
theorem dX0_place_5 : decode cX0_place 5 = .ok (.istore 4, 2) := by decide +kernel
theorem dX0_place_7 : decode cX0_place 7 = .ok (.iload 4, 2) := by decide +kernel
theorem dX0_place_9 : decode cX0_place 9 = .ok (.bipush 48, 2) := by decide +kernel
theorem dX0_place_11 : decode cX0_place 11 = .ok (.if_icmp .ge 53, 3) := by decide +kernel
theorem dX0_place_14 : decode cX0_place 14 = .ok (.aload_n 0, 1) := by decide +kernel
theorem dX0_place_15 : decode cX0_place 15 = .ok (.getfield 9, 3) := by decide +kernel
theorem dX0_place_18 : decode cX0_place 18 = .ok (.iload 4, 2) := by decide +kernel
theorem dX0_place_20 : decode cX0_place 20 = .ok (.iaload, 1) := by decide +kernel
theorem dX0_place_21 : decode cX0_place 21 = .ok (.iconst 2, 1) := by decide +kernel
theorem dX0_place_22 : decode cX0_place 22 = .ok (.if_icmp .ne 36, 3) := by decide +kernel
theorem dX0_place_25 : decode cX0_place 25 = .ok (.aload_n 0, 1) := by decide +kernel
theorem dX0_place_26 : decode cX0_place 26 = .ok (.getfield 15, 3) := by decide +kernel
theorem dX0_place_29 : decode cX0_place 29 = .ok (.iload 4, 2) := by decide +kernel
theorem dX0_place_31 : decode cX0_place 31 = .ok (.iaload, 1) := by decide +kernel
theorem dX0_place_32 : decode cX0_place 32 = .ok (.iload_n 1, 1) := by decide +kernel
theorem dX0_place_33 : decode cX0_place 33 = .ok (.if_icmp .ne 25, 3) := by decide +kernel
theorem dX0_place_36 : decode cX0_place 36 = .ok (.aload_n 0, 1) := by decide +kernel
theorem dX0_place_37 : decode cX0_place 37 = .ok (.getfield 21, 3) := by decide +kernel
theorem dX0_place_40 : decode cX0_place 40 = .ok (.iload 4, 2) := by decide +kernel
theorem dX0_place_42 : decode cX0_place 42 = .ok (.iaload, 1) := by decide +kernel
theorem dX0_place_43 : decode cX0_place 43 = .ok (.iload_n 3, 1) := by decide +kernel
theorem dX0_place_44 : decode cX0_place 44 = .ok (.if_icmp .le 14, 3) := by decide +kernel
theorem dX0_place_47 : decode cX0_place 47 = .ok (.iload 4, 2) := by decide +kernel
theorem dX0_place_49 : decode cX0_place 49 = .ok (.istore_n 2, 1) := by decide +kernel
theorem dX0_place_50 : decode cX0_place 50 = .ok (.aload_n 0, 1) := by decide +kernel
theorem dX0_place_51 : decode cX0_place 51 = .ok (.getfield 21, 3) := by decide +kernel
theorem dX0_place_54 : decode cX0_place 54 = .ok (.iload 4, 2) := by decide +kernel
theorem dX0_place_56 : decode cX0_place 56 = .ok (.iaload, 1) := by decide +kernel
theorem dX0_place_57 : decode cX0_place 57 = .ok (.istore_n 3, 1) := by decide +kernel
theorem dX0_place_58 : decode cX0_place 58 = .ok (.iinc 4 1, 3) := by decide +kernel
theorem dX0_place_61 : decode cX0_place 61 = .ok (.goto (-54), 3) := by decide +kernel
theorem dX0_place_64 : decode cX0_place 64 = .ok (.iload_n 2, 1) := by decide +kernel
theorem dX0_place_65 : decode cX0_place 65 = .ok (.ireturn, 1) := by decide +kernel
theorem dX0_isPlace_0 : decode cX0_isPlace 0 = .ok (.aload_n 0, 1) := by decide +kernel
theorem dX0_isPlace_1 : decode cX0_isPlace 1 = .ok (.iload_n 1, 1) := by decide +kernel
theorem dX0_isPlace_2 : decode cX0_isPlace 2 = .ok (.invokevirtual 46, 3) := by decide +kernel
theorem dX0_isPlace_5 : decode cX0_isPlace 5 = .ok (.iconst 2, 1) := by decide +kernel
theorem dX0_isPlace_6 : decode cX0_isPlace 6 = .ok (.if_icmp .ne 20, 3) := by decide +kernel
theorem dX0_isPlace_9 : decode cX0_isPlace 9 = .ok (.aload_n 0, 1) := by decide +kernel
theorem dX0_isPlace_10 : decode cX0_isPlace 10 = .ok (.aload_n 0, 1) := by decide +kernel
theorem dX0_isPlace_11 : decode cX0_isPlace 11 = .ok (.iload_n 1, 1) := by decide +kernel
theorem dX0_isPlace_12 : decode cX0_isPlace 12 = .ok (.invokevirtual 28, 3) := by decide +kernel
theorem dX0_isPlace_15 : decode cX0_isPlace 15 = .ok (.invokevirtual 49, 3) := by decide +kernel
theorem dX0_isPlace_18 : decode cX0_isPlace 18 = .ok (.iload_n 1, 1) := by decide +kernel
theorem dX0_isPlace_19 : decode cX0_isPlace 19 = .ok (.if_icmp .ne 7, 3) := by decide +kernel
theorem dX0_isPlace_22 : decode cX0_isPlace 22 = .ok (.iconst 1, 1) := by decide +kernel
theorem dX0_isPlace_23 : decode cX0_isPlace 23 = .ok (.goto 4, 3) := by decide +kernel
theorem dX0_isPlace_26 : decode cX0_isPlace 26 = .ok (.iconst 0, 1) := by decide +kernel
theorem dX0_isPlace_27 : decode cX0_isPlace 27 = .ok (.ireturn, 1) := by decide +kernel
theorem dX0_placeStamp_0 : decode cX0_placeStamp 0 = .ok (.aload_n 0, 1) := by decide +kernel
theorem dX0_placeStamp_1 : decode cX0_placeStamp 1 = .ok (.iload_n 1, 1) := by decide +kernel
theorem dX0_placeStamp_2 : decode cX0_placeStamp 2 = .ok (.invokevirtual 49, 3) := by decide +kernel
theorem dX0_placeStamp_5 : decode cX0_placeStamp 5 = .ok (.istore_n 2, 1) := by decide +kernel
theorem dX0_placeStamp_6 : decode cX0_placeStamp 6 = .ok (.iload_n 2, 1) := by decide +kernel
theorem dX0_placeStamp_7 : decode cX0_placeStamp 7 = .ok (.iconst (-1), 1) := by decide +kernel
theorem dX0_placeStamp_8 : decode cX0_placeStamp 8 = .ok (.if_icmp .ne 7, 3) := by decide +kernel
theorem dX0_placeStamp_11 : decode cX0_placeStamp 11 = .ok (.iconst 0, 1) := by decide +kernel
theorem dX0_placeStamp_12 : decode cX0_placeStamp 12 = .ok (.goto 8, 3) := by decide +kernel
theorem dX0_placeStamp_15 : decode cX0_placeStamp 15 = .ok (.aload_n 0, 1) := by decide +kernel
theorem dX0_placeStamp_16 : decode cX0_placeStamp 16 = .ok (.iload_n 2, 1) := by decide +kernel
theorem dX0_placeStamp_17 : decode cX0_placeStamp 17 = .ok (.invokevirtual 35, 3) := by decide +kernel
theorem dX0_placeStamp_20 : decode cX0_placeStamp 20 = .ok (.ireturn, 1) := by decide +kernel
theorem dX0_placesInBlock_0 : decode cX0_placesInBlock 0 = .ok (.iconst 0, 1) := by decide +kernel
theorem dX0_placesInBlock_1 : decode cX0_placesInBlock 1 = .ok (.istore_n 2, 1) := by decide +kernel
theorem dX0_placesInBlock_2 : decode cX0_placesInBlock 2 = .ok (.iconst 0, 1) := by decide +kernel
theorem dX0_placesInBlock_3 : decode cX0_placesInBlock 3 = .ok (.istore_n 3, 1) := by decide +kernel
theorem dX0_placesInBlock_4 : decode cX0_placesInBlock 4 = .ok (.iload_n 3, 1) := by decide +kernel
theorem dX0_placesInBlock_5 : decode cX0_placesInBlock 5 = .ok (.bipush 24, 2) := by decide +kernel
theorem dX0_placesInBlock_7 : decode cX0_placesInBlock 7 = .ok (.if_icmp .ge 24, 3) := by decide +kernel
theorem dX0_placesInBlock_10 : decode cX0_placesInBlock 10 = .ok (.aload_n 0, 1) := by decide +kernel
theorem dX0_placesInBlock_11 : decode cX0_placesInBlock 11 = .ok (.iload_n 1, 1) := by decide +kernel
theorem dX0_placesInBlock_12 : decode cX0_placesInBlock 12 = .ok (.iload_n 3, 1) := by decide +kernel
theorem dX0_placesInBlock_13 : decode cX0_placesInBlock 13 = .ok (.invokestatic 38, 3) := by decide +kernel
theorem dX0_placesInBlock_16 : decode cX0_placesInBlock 16 = .ok (.invokevirtual 52, 3) := by decide +kernel
theorem dX0_placesInBlock_19 : decode cX0_placesInBlock 19 = .ok (.ifCond .eq 6, 3) := by decide +kernel
theorem dX0_placesInBlock_22 : decode cX0_placesInBlock 22 = .ok (.iinc 2 1, 3) := by decide +kernel
theorem dX0_placesInBlock_25 : decode cX0_placesInBlock 25 = .ok (.iinc 3 1, 3) := by decide +kernel
theorem dX0_placesInBlock_28 : decode cX0_placesInBlock 28 = .ok (.goto (-24), 3) := by decide +kernel
theorem dX0_placesInBlock_31 : decode cX0_placesInBlock 31 = .ok (.iload_n 2, 1) := by decide +kernel
theorem dX0_placesInBlock_32 : decode cX0_placesInBlock 32 = .ok (.ireturn, 1) := by decide +kernel
theorem dX0_tornPages_0 : decode cX0_tornPages 0 = .ok (.iconst 0, 1) := by decide +kernel
theorem dX0_tornPages_1 : decode cX0_tornPages 1 = .ok (.istore_n 1, 1) := by decide +kernel
theorem dX0_tornPages_2 : decode cX0_tornPages 2 = .ok (.iconst 0, 1) := by decide +kernel
theorem dX0_tornPages_3 : decode cX0_tornPages 3 = .ok (.istore_n 2, 1) := by decide +kernel
theorem dX0_tornPages_4 : decode cX0_tornPages 4 = .ok (.iload_n 2, 1) := by decide +kernel
theorem dX0_tornPages_5 : decode cX0_tornPages 5 = .ok (.bipush 48, 2) := by decide +kernel
theorem dX0_tornPages_7 : decode cX0_tornPages 7 = .ok (.if_icmp .ge 22, 3) := by decide +kernel
theorem dX0_tornPages_10 : decode cX0_tornPages 10 = .ok (.aload_n 0, 1) := by decide +kernel
theorem dX0_tornPages_11 : decode cX0_tornPages 11 = .ok (.getfield 9, 3) := by decide +kernel
theorem dX0_tornPages_14 : decode cX0_tornPages 14 = .ok (.iload_n 2, 1) := by decide +kernel
theorem dX0_tornPages_15 : decode cX0_tornPages 15 = .ok (.iaload, 1) := by decide +kernel
theorem dX0_tornPages_16 : decode cX0_tornPages 16 = .ok (.iconst 3, 1) := by decide +kernel
theorem dX0_tornPages_17 : decode cX0_tornPages 17 = .ok (.if_icmp .ne 6, 3) := by decide +kernel
theorem dX0_tornPages_20 : decode cX0_tornPages 20 = .ok (.iinc 1 1, 3) := by decide +kernel
theorem dX0_tornPages_23 : decode cX0_tornPages 23 = .ok (.iinc 2 1, 3) := by decide +kernel
theorem dX0_tornPages_26 : decode cX0_tornPages 26 = .ok (.goto (-22), 3) := by decide +kernel
theorem dX0_tornPages_29 : decode cX0_tornPages 29 = .ok (.iload_n 1, 1) := by decide +kernel
theorem dX0_tornPages_30 : decode cX0_tornPages 30 = .ok (.ireturn, 1) := by decide +kernel
theorem dX0_keysWithPlace_0 : decode cX0_keysWithPlace 0 = .ok (.iconst 0, 1) := by decide +kernel
theorem dX0_keysWithPlace_1 : decode cX0_keysWithPlace 1 = .ok (.istore_n 1, 1) := by decide +kernel
theorem dX0_keysWithPlace_2 : decode cX0_keysWithPlace 2 = .ok (.iconst 0, 1) := by decide +kernel
theorem dX0_keysWithPlace_3 : decode cX0_keysWithPlace 3 = .ok (.istore_n 2, 1) := by decide +kernel
theorem dX0_keysWithPlace_4 : decode cX0_keysWithPlace 4 = .ok (.iload_n 2, 1) := by decide +kernel
theorem dX0_keysWithPlace_5 : decode cX0_keysWithPlace 5 = .ok (.bipush 12, 2) := by decide +kernel
theorem dX0_keysWithPlace_7 : decode cX0_keysWithPlace 7 = .ok (.if_icmp .ge 21, 3) := by decide +kernel
theorem dX0_keysWithPlace_10 : decode cX0_keysWithPlace 10 = .ok (.aload_n 0, 1) := by decide +kernel
theorem dX0_keysWithPlace_11 : decode cX0_keysWithPlace 11 = .ok (.iload_n 2, 1) := by decide +kernel
theorem dX0_keysWithPlace_12 : decode cX0_keysWithPlace 12 = .ok (.invokevirtual 49, 3) := by decide +kernel
theorem dX0_keysWithPlace_15 : decode cX0_keysWithPlace 15 = .ok (.iconst (-1), 1) := by decide +kernel
theorem dX0_keysWithPlace_16 : decode cX0_keysWithPlace 16 = .ok (.if_icmp .eq 6, 3) := by decide +kernel
theorem dX0_keysWithPlace_19 : decode cX0_keysWithPlace 19 = .ok (.iinc 1 1, 3) := by decide +kernel
theorem dX0_keysWithPlace_22 : decode cX0_keysWithPlace 22 = .ok (.iinc 2 1, 3) := by decide +kernel
theorem dX0_keysWithPlace_25 : decode cX0_keysWithPlace 25 = .ok (.goto (-21), 3) := by decide +kernel
theorem dX0_keysWithPlace_28 : decode cX0_keysWithPlace 28 = .ok (.iload_n 1, 1) := by decide +kernel
theorem dX0_keysWithPlace_29 : decode cX0_keysWithPlace 29 = .ok (.ireturn, 1) := by decide +kernel
theorem dX1_init_0 : decode cX1_init 0 = .ok (.aload_n 0, 1) := by decide +kernel
theorem dX1_init_1 : decode cX1_init 1 = .ok (.invokespecial 3, 3) := by decide +kernel
theorem dX1_init_4 : decode cX1_init 4 = .ok (.aload_n 0, 1) := by decide +kernel
theorem dX1_init_5 : decode cX1_init 5 = .ok (.iconst 5, 1) := by decide +kernel
theorem dX1_init_6 : decode cX1_init 6 = .ok (.anewarray 9, 3) := by decide +kernel
theorem dX1_init_9 : decode cX1_init 9 = .ok (.putfield 11, 3) := by decide +kernel
theorem dX1_init_12 : decode cX1_init 12 = .ok (.iconst 0, 1) := by decide +kernel
theorem dX1_init_13 : decode cX1_init 13 = .ok (.istore_n 1, 1) := by decide +kernel
theorem dX1_init_14 : decode cX1_init 14 = .ok (.iload_n 1, 1) := by decide +kernel
theorem dX1_init_15 : decode cX1_init 15 = .ok (.aload_n 0, 1) := by decide +kernel
theorem dX1_init_16 : decode cX1_init 16 = .ok (.getfield 11, 3) := by decide +kernel
theorem dX1_init_19 : decode cX1_init 19 = .ok (.arraylength, 1) := by decide +kernel
theorem dX1_init_20 : decode cX1_init 20 = .ok (.if_icmp .ge 22, 3) := by decide +kernel
theorem dX1_init_23 : decode cX1_init 23 = .ok (.aload_n 0, 1) := by decide +kernel
theorem dX1_init_24 : decode cX1_init 24 = .ok (.getfield 11, 3) := by decide +kernel
theorem dX1_init_27 : decode cX1_init 27 = .ok (.iload_n 1, 1) := by decide +kernel
theorem dX1_init_28 : decode cX1_init 28 = .ok (.new 9, 3) := by decide +kernel
theorem dX1_init_31 : decode cX1_init 31 = .ok (.dup, 1) := by decide +kernel
theorem dX1_init_32 : decode cX1_init 32 = .ok (.invokespecial 17, 3) := by decide +kernel
theorem dX1_init_35 : decode cX1_init 35 = .ok (.aastore, 1) := by decide +kernel
theorem dX1_init_36 : decode cX1_init 36 = .ok (.iinc 1 1, 3) := by decide +kernel
theorem dX1_init_39 : decode cX1_init 39 = .ok (.goto (-25), 3) := by decide +kernel
theorem dX1_init_42 : decode cX1_init 42 = .ok (.return_, 1) := by decide +kernel
theorem dX1_size_0 : decode cX1_size 0 = .ok (.aload_n 0, 1) := by decide +kernel
theorem dX1_size_1 : decode cX1_size 1 = .ok (.getfield 18, 3) := by decide +kernel
theorem dX1_size_4 : decode cX1_size 4 = .ok (.ireturn, 1) := by decide +kernel
theorem dX1_note_0 : decode cX1_note 0 = .ok (.aload_n 0, 1) := by decide +kernel
theorem dX1_note_1 : decode cX1_note 1 = .ok (.aload_n 0, 1) := by decide +kernel
theorem dX1_note_2 : decode cX1_note 2 = .ok (.getfield 18, 3) := by decide +kernel
theorem dX1_note_5 : decode cX1_note 5 = .ok (.invokevirtual 22, 3) := by decide +kernel
theorem dX1_note_8 : decode cX1_note 8 = .ok (.astore_n 2, 1) := by decide +kernel
theorem dX1_note_9 : decode cX1_note 9 = .ok (.aload_n 2, 1) := by decide +kernel
theorem dX1_note_10 : decode cX1_note 10 = .ok (.ifnull 8, 3) := by decide +kernel
theorem dX1_note_13 : decode cX1_note 13 = .ok (.aload_n 2, 1) := by decide +kernel
theorem dX1_note_14 : decode cX1_note 14 = .ok (.aload_n 1, 1) := by decide +kernel
theorem dX1_note_15 : decode cX1_note 15 = .ok (.invokevirtual 26, 3) := by decide +kernel
theorem dX1_note_18 : decode cX1_note 18 = .ok (.return_, 1) := by decide +kernel
theorem dX1_keep_0 : decode cX1_keep 0 = .ok (.aload_n 0, 1) := by decide +kernel
theorem dX1_keep_1 : decode cX1_keep 1 = .ok (.dup, 1) := by decide +kernel
theorem dX1_keep_2 : decode cX1_keep 2 = .ok (.getfield 18, 3) := by decide +kernel
theorem dX1_keep_5 : decode cX1_keep 5 = .ok (.iconst 1, 1) := by decide +kernel
theorem dX1_keep_6 : decode cX1_keep 6 = .ok (.iadd, 1) := by decide +kernel
theorem dX1_keep_7 : decode cX1_keep 7 = .ok (.putfield 18, 3) := by decide +kernel
theorem dX1_keep_10 : decode cX1_keep 10 = .ok (.aload_n 0, 1) := by decide +kernel
theorem dX1_keep_11 : decode cX1_keep 11 = .ok (.getfield 18, 3) := by decide +kernel
theorem dX1_keep_14 : decode cX1_keep 14 = .ok (.iconst 4, 1) := by decide +kernel
theorem dX1_keep_15 : decode cX1_keep 15 = .ok (.if_icmp .le 7, 3) := by decide +kernel
theorem dX1_keep_18 : decode cX1_keep 18 = .ok (.aload_n 0, 1) := by decide +kernel
theorem dX1_keep_19 : decode cX1_keep 19 = .ok (.invokevirtual 30, 3) := by decide +kernel
theorem dX1_keep_22 : decode cX1_keep 22 = .ok (.return_, 1) := by decide +kernel
theorem dX1_restore_0 : decode cX1_restore 0 = .ok (.aload_n 0, 1) := by decide +kernel
theorem dX1_restore_1 : decode cX1_restore 1 = .ok (.getfield 18, 3) := by decide +kernel
theorem dX1_restore_4 : decode cX1_restore 4 = .ok (.ifCond .ne 6, 3) := by decide +kernel
theorem dX1_restore_7 : decode cX1_restore 7 = .ok (.bipush (-2), 2) := by decide +kernel
theorem dX1_restore_9 : decode cX1_restore 9 = .ok (.ireturn, 1) := by decide +kernel
theorem dX1_restore_10 : decode cX1_restore 10 = .ok (.aload_n 0, 1) := by decide +kernel
theorem dX1_restore_11 : decode cX1_restore 11 = .ok (.dup, 1) := by decide +kernel
theorem dX1_restore_12 : decode cX1_restore 12 = .ok (.getfield 18, 3) := by decide +kernel
theorem dX1_restore_15 : decode cX1_restore 15 = .ok (.iconst 1, 1) := by decide +kernel
theorem dX1_restore_16 : decode cX1_restore 16 = .ok (.isub, 1) := by decide +kernel
theorem dX1_restore_17 : decode cX1_restore 17 = .ok (.putfield 18, 3) := by decide +kernel
theorem dX1_restore_20 : decode cX1_restore 20 = .ok (.aload_n 0, 1) := by decide +kernel
theorem dX1_restore_21 : decode cX1_restore 21 = .ok (.aload_n 0, 1) := by decide +kernel
theorem dX1_restore_22 : decode cX1_restore 22 = .ok (.getfield 18, 3) := by decide +kernel
theorem dX1_restore_25 : decode cX1_restore 25 = .ok (.invokevirtual 22, 3) := by decide +kernel
theorem dX1_restore_28 : decode cX1_restore 28 = .ok (.astore_n 2, 1) := by decide +kernel
theorem dX1_restore_29 : decode cX1_restore 29 = .ok (.aload_n 2, 1) := by decide +kernel
theorem dX1_restore_30 : decode cX1_restore 30 = .ok (.ifnull 8, 3) := by decide +kernel
theorem dX1_restore_33 : decode cX1_restore 33 = .ok (.aload_n 1, 1) := by decide +kernel
theorem dX1_restore_34 : decode cX1_restore 34 = .ok (.aload_n 2, 1) := by decide +kernel
theorem dX1_restore_35 : decode cX1_restore 35 = .ok (.invokevirtual 26, 3) := by decide +kernel
theorem dX1_restore_38 : decode cX1_restore 38 = .ok (.aload_n 0, 1) := by decide +kernel
theorem dX1_restore_39 : decode cX1_restore 39 = .ok (.getfield 18, 3) := by decide +kernel
theorem dX1_restore_42 : decode cX1_restore 42 = .ok (.ireturn, 1) := by decide +kernel
theorem dX1_stateAt_0 : decode cX1_stateAt 0 = .ok (.iload_n 1, 1) := by decide +kernel
theorem dX1_stateAt_1 : decode cX1_stateAt 1 = .ok (.ifCond .lt 21, 3) := by decide +kernel
theorem dX1_stateAt_4 : decode cX1_stateAt 4 = .ok (.iload_n 1, 1) := by decide +kernel
theorem dX1_stateAt_5 : decode cX1_stateAt 5 = .ok (.aload_n 0, 1) := by decide +kernel
theorem dX1_stateAt_6 : decode cX1_stateAt 6 = .ok (.getfield 11, 3) := by decide +kernel
theorem dX1_stateAt_9 : decode cX1_stateAt 9 = .ok (.arraylength, 1) := by decide +kernel
theorem dX1_stateAt_10 : decode cX1_stateAt 10 = .ok (.if_icmp .ge 12, 3) := by decide +kernel
theorem dX1_stateAt_13 : decode cX1_stateAt 13 = .ok (.aload_n 0, 1) := by decide +kernel
theorem dX1_stateAt_14 : decode cX1_stateAt 14 = .ok (.getfield 11, 3) := by decide +kernel
theorem dX1_stateAt_17 : decode cX1_stateAt 17 = .ok (.iload_n 1, 1) := by decide +kernel
theorem dX1_stateAt_18 : decode cX1_stateAt 18 = .ok (.aaload, 1) := by decide +kernel
theorem dX1_stateAt_19 : decode cX1_stateAt 19 = .ok (.goto 4, 3) := by decide +kernel
theorem dX1_stateAt_22 : decode cX1_stateAt 22 = .ok (.aconst_null, 1) := by decide +kernel
theorem dX1_stateAt_23 : decode cX1_stateAt 23 = .ok (.areturn, 1) := by decide +kernel
theorem dX1_dropOldest_0 : decode cX1_dropOldest 0 = .ok (.aload_n 0, 1) := by decide +kernel
theorem dX1_dropOldest_1 : decode cX1_dropOldest 1 = .ok (.iconst 0, 1) := by decide +kernel
theorem dX1_dropOldest_2 : decode cX1_dropOldest 2 = .ok (.invokevirtual 22, 3) := by decide +kernel
theorem dX1_dropOldest_5 : decode cX1_dropOldest 5 = .ok (.astore_n 1, 1) := by decide +kernel
theorem dX1_dropOldest_6 : decode cX1_dropOldest 6 = .ok (.iconst 0, 1) := by decide +kernel
theorem dX1_dropOldest_7 : decode cX1_dropOldest 7 = .ok (.istore_n 2, 1) := by decide +kernel
theorem dX1_dropOldest_8 : decode cX1_dropOldest 8 = .ok (.iload_n 2, 1) := by decide +kernel
theorem dX1_dropOldest_9 : decode cX1_dropOldest 9 = .ok (.iconst 1, 1) := by decide +kernel
theorem dX1_dropOldest_10 : decode cX1_dropOldest 10 = .ok (.iadd, 1) := by decide +kernel
theorem dX1_dropOldest_11 : decode cX1_dropOldest 11 = .ok (.aload_n 0, 1) := by decide +kernel
theorem dX1_dropOldest_12 : decode cX1_dropOldest 12 = .ok (.getfield 11, 3) := by decide +kernel
theorem dX1_dropOldest_15 : decode cX1_dropOldest 15 = .ok (.arraylength, 1) := by decide +kernel
theorem dX1_dropOldest_16 : decode cX1_dropOldest 16 = .ok (.if_icmp .ge 23, 3) := by decide +kernel
theorem dX1_dropOldest_19 : decode cX1_dropOldest 19 = .ok (.aload_n 0, 1) := by decide +kernel
theorem dX1_dropOldest_20 : decode cX1_dropOldest 20 = .ok (.getfield 11, 3) := by decide +kernel
theorem dX1_dropOldest_23 : decode cX1_dropOldest 23 = .ok (.iload_n 2, 1) := by decide +kernel
theorem dX1_dropOldest_24 : decode cX1_dropOldest 24 = .ok (.aload_n 0, 1) := by decide +kernel
theorem dX1_dropOldest_25 : decode cX1_dropOldest 25 = .ok (.getfield 11, 3) := by decide +kernel
theorem dX1_dropOldest_28 : decode cX1_dropOldest 28 = .ok (.iload_n 2, 1) := by decide +kernel
theorem dX1_dropOldest_29 : decode cX1_dropOldest 29 = .ok (.iconst 1, 1) := by decide +kernel
theorem dX1_dropOldest_30 : decode cX1_dropOldest 30 = .ok (.iadd, 1) := by decide +kernel
theorem dX1_dropOldest_31 : decode cX1_dropOldest 31 = .ok (.aaload, 1) := by decide +kernel
theorem dX1_dropOldest_32 : decode cX1_dropOldest 32 = .ok (.aastore, 1) := by decide +kernel
theorem dX1_dropOldest_33 : decode cX1_dropOldest 33 = .ok (.iinc 2 1, 3) := by decide +kernel
theorem dX1_dropOldest_36 : decode cX1_dropOldest 36 = .ok (.goto (-28), 3) := by decide +kernel
theorem dX1_dropOldest_39 : decode cX1_dropOldest 39 = .ok (.aload_n 0, 1) := by decide +kernel
theorem dX1_dropOldest_40 : decode cX1_dropOldest 40 = .ok (.getfield 11, 3) := by decide +kernel
theorem dX1_dropOldest_43 : decode cX1_dropOldest 43 = .ok (.iconst 4, 1) := by decide +kernel
theorem dX1_dropOldest_44 : decode cX1_dropOldest 44 = .ok (.aload_n 1, 1) := by decide +kernel
theorem dX1_dropOldest_45 : decode cX1_dropOldest 45 = .ok (.aastore, 1) := by decide +kernel
theorem dX1_dropOldest_46 : decode cX1_dropOldest 46 = .ok (.aload_n 0, 1) := by decide +kernel
theorem dX1_dropOldest_47 : decode cX1_dropOldest 47 = .ok (.iconst 4, 1) := by decide +kernel
theorem dX1_dropOldest_48 : decode cX1_dropOldest 48 = .ok (.putfield 18, 3) := by decide +kernel
theorem dX1_dropOldest_51 : decode cX1_dropOldest 51 = .ok (.return_, 1) := by decide +kernel
theorem dX2_init_0 : decode cX2_init 0 = .ok (.aload_n 0, 1) := by decide +kernel
theorem dX2_init_1 : decode cX2_init 1 = .ok (.invokespecial 3, 3) := by decide +kernel
theorem dX2_init_4 : decode cX2_init 4 = .ok (.aload_n 0, 1) := by decide +kernel
theorem dX2_init_5 : decode cX2_init 5 = .ok (.bipush 8, 2) := by decide +kernel
theorem dX2_init_7 : decode cX2_init 7 = .ok (.newarray .int, 2) := by decide +kernel
theorem dX2_init_9 : decode cX2_init 9 = .ok (.putfield 9, 3) := by decide +kernel
theorem dX2_init_12 : decode cX2_init 12 = .ok (.aload_n 0, 1) := by decide +kernel
theorem dX2_init_13 : decode cX2_init 13 = .ok (.bipush 8, 2) := by decide +kernel
theorem dX2_init_15 : decode cX2_init 15 = .ok (.newarray .int, 2) := by decide +kernel
theorem dX2_init_17 : decode cX2_init 17 = .ok (.putfield 15, 3) := by decide +kernel
theorem dX2_init_20 : decode cX2_init 20 = .ok (.aload_n 0, 1) := by decide +kernel
theorem dX2_init_21 : decode cX2_init 21 = .ok (.bipush 8, 2) := by decide +kernel
theorem dX2_init_23 : decode cX2_init 23 = .ok (.newarray .int, 2) := by decide +kernel
theorem dX2_init_25 : decode cX2_init 25 = .ok (.putfield 18, 3) := by decide +kernel
theorem dX2_init_28 : decode cX2_init 28 = .ok (.aload_n 0, 1) := by decide +kernel
theorem dX2_init_29 : decode cX2_init 29 = .ok (.bipush 8, 2) := by decide +kernel
theorem dX2_init_31 : decode cX2_init 31 = .ok (.newarray .int, 2) := by decide +kernel
theorem dX2_init_33 : decode cX2_init 33 = .ok (.putfield 21, 3) := by decide +kernel
theorem dX2_init_36 : decode cX2_init 36 = .ok (.return_, 1) := by decide +kernel
theorem dX2_copyFrom_0 : decode cX2_copyFrom 0 = .ok (.aload_n 1, 1) := by decide +kernel
theorem dX2_copyFrom_1 : decode cX2_copyFrom 1 = .ok (.getfield 9, 3) := by decide +kernel
theorem dX2_copyFrom_4 : decode cX2_copyFrom 4 = .ok (.aload_n 0, 1) := by decide +kernel
theorem dX2_copyFrom_5 : decode cX2_copyFrom 5 = .ok (.getfield 9, 3) := by decide +kernel
theorem dX2_copyFrom_8 : decode cX2_copyFrom 8 = .ok (.invokestatic 24, 3) := by decide +kernel
theorem dX2_copyFrom_11 : decode cX2_copyFrom 11 = .ok (.aload_n 1, 1) := by decide +kernel
theorem dX2_copyFrom_12 : decode cX2_copyFrom 12 = .ok (.getfield 15, 3) := by decide +kernel
theorem dX2_copyFrom_15 : decode cX2_copyFrom 15 = .ok (.aload_n 0, 1) := by decide +kernel
theorem dX2_copyFrom_16 : decode cX2_copyFrom 16 = .ok (.getfield 15, 3) := by decide +kernel
theorem dX2_copyFrom_19 : decode cX2_copyFrom 19 = .ok (.invokestatic 24, 3) := by decide +kernel
theorem dX2_copyFrom_22 : decode cX2_copyFrom 22 = .ok (.aload_n 1, 1) := by decide +kernel
theorem dX2_copyFrom_23 : decode cX2_copyFrom 23 = .ok (.getfield 18, 3) := by decide +kernel
theorem dX2_copyFrom_26 : decode cX2_copyFrom 26 = .ok (.aload_n 0, 1) := by decide +kernel
theorem dX2_copyFrom_27 : decode cX2_copyFrom 27 = .ok (.getfield 18, 3) := by decide +kernel
theorem dX2_copyFrom_30 : decode cX2_copyFrom 30 = .ok (.invokestatic 24, 3) := by decide +kernel
theorem dX2_copyFrom_33 : decode cX2_copyFrom 33 = .ok (.aload_n 1, 1) := by decide +kernel
theorem dX2_copyFrom_34 : decode cX2_copyFrom 34 = .ok (.getfield 21, 3) := by decide +kernel
theorem dX2_copyFrom_37 : decode cX2_copyFrom 37 = .ok (.aload_n 0, 1) := by decide +kernel
theorem dX2_copyFrom_38 : decode cX2_copyFrom 38 = .ok (.getfield 21, 3) := by decide +kernel
theorem dX2_copyFrom_41 : decode cX2_copyFrom 41 = .ok (.invokestatic 24, 3) := by decide +kernel
theorem dX2_copyFrom_44 : decode cX2_copyFrom 44 = .ok (.aload_n 0, 1) := by decide +kernel
theorem dX2_copyFrom_45 : decode cX2_copyFrom 45 = .ok (.aload_n 1, 1) := by decide +kernel
theorem dX2_copyFrom_46 : decode cX2_copyFrom 46 = .ok (.getfield 28, 3) := by decide +kernel
theorem dX2_copyFrom_49 : decode cX2_copyFrom 49 = .ok (.putfield 28, 3) := by decide +kernel
theorem dX2_copyFrom_52 : decode cX2_copyFrom 52 = .ok (.return_, 1) := by decide +kernel
theorem dX2_size_0 : decode cX2_size 0 = .ok (.aload_n 0, 1) := by decide +kernel
theorem dX2_size_1 : decode cX2_size 1 = .ok (.getfield 28, 3) := by decide +kernel
theorem dX2_size_4 : decode cX2_size 4 = .ok (.ireturn, 1) := by decide +kernel
theorem dX2_key_0 : decode cX2_key 0 = .ok (.iload_n 1, 1) := by decide +kernel
theorem dX2_key_1 : decode cX2_key 1 = .ok (.ifCond .lt 18, 3) := by decide +kernel
theorem dX2_key_4 : decode cX2_key 4 = .ok (.iload_n 1, 1) := by decide +kernel
theorem dX2_key_5 : decode cX2_key 5 = .ok (.bipush 8, 2) := by decide +kernel
theorem dX2_key_7 : decode cX2_key 7 = .ok (.if_icmp .ge 12, 3) := by decide +kernel
theorem dX2_key_10 : decode cX2_key 10 = .ok (.aload_n 0, 1) := by decide +kernel
theorem dX2_key_11 : decode cX2_key 11 = .ok (.getfield 9, 3) := by decide +kernel
theorem dX2_key_14 : decode cX2_key 14 = .ok (.iload_n 1, 1) := by decide +kernel
theorem dX2_key_15 : decode cX2_key 15 = .ok (.iaload, 1) := by decide +kernel
theorem dX2_key_16 : decode cX2_key 16 = .ok (.goto 4, 3) := by decide +kernel
theorem dX2_key_19 : decode cX2_key 19 = .ok (.iconst 0, 1) := by decide +kernel
theorem dX2_key_20 : decode cX2_key 20 = .ok (.ireturn, 1) := by decide +kernel
theorem dX2_value_0 : decode cX2_value 0 = .ok (.iload_n 1, 1) := by decide +kernel
theorem dX2_value_1 : decode cX2_value 1 = .ok (.ifCond .lt 18, 3) := by decide +kernel
theorem dX2_value_4 : decode cX2_value 4 = .ok (.iload_n 1, 1) := by decide +kernel
theorem dX2_value_5 : decode cX2_value 5 = .ok (.bipush 8, 2) := by decide +kernel
theorem dX2_value_7 : decode cX2_value 7 = .ok (.if_icmp .ge 12, 3) := by decide +kernel
theorem dX2_value_10 : decode cX2_value 10 = .ok (.aload_n 0, 1) := by decide +kernel
theorem dX2_value_11 : decode cX2_value 11 = .ok (.getfield 15, 3) := by decide +kernel
theorem dX2_value_14 : decode cX2_value 14 = .ok (.iload_n 1, 1) := by decide +kernel
theorem dX2_value_15 : decode cX2_value 15 = .ok (.iaload, 1) := by decide +kernel
theorem dX2_value_16 : decode cX2_value 16 = .ok (.goto 4, 3) := by decide +kernel
theorem dX2_value_19 : decode cX2_value 19 = .ok (.iconst 0, 1) := by decide +kernel
theorem dX2_value_20 : decode cX2_value 20 = .ok (.ireturn, 1) := by decide +kernel
theorem dX2_urgency_0 : decode cX2_urgency 0 = .ok (.iload_n 1, 1) := by decide +kernel
theorem dX2_urgency_1 : decode cX2_urgency 1 = .ok (.ifCond .lt 18, 3) := by decide +kernel
theorem dX2_urgency_4 : decode cX2_urgency 4 = .ok (.iload_n 1, 1) := by decide +kernel
theorem dX2_urgency_5 : decode cX2_urgency 5 = .ok (.bipush 8, 2) := by decide +kernel
theorem dX2_urgency_7 : decode cX2_urgency 7 = .ok (.if_icmp .ge 12, 3) := by decide +kernel
theorem dX2_urgency_10 : decode cX2_urgency 10 = .ok (.aload_n 0, 1) := by decide +kernel
theorem dX2_urgency_11 : decode cX2_urgency 11 = .ok (.getfield 18, 3) := by decide +kernel
theorem dX2_urgency_14 : decode cX2_urgency 14 = .ok (.iload_n 1, 1) := by decide +kernel
theorem dX2_urgency_15 : decode cX2_urgency 15 = .ok (.iaload, 1) := by decide +kernel
theorem dX2_urgency_16 : decode cX2_urgency 16 = .ok (.goto 4, 3) := by decide +kernel
theorem dX2_urgency_19 : decode cX2_urgency 19 = .ok (.iconst 0, 1) := by decide +kernel
theorem dX2_urgency_20 : decode cX2_urgency 20 = .ok (.ireturn, 1) := by decide +kernel
theorem dX2_stamp_0 : decode cX2_stamp 0 = .ok (.iload_n 1, 1) := by decide +kernel
theorem dX2_stamp_1 : decode cX2_stamp 1 = .ok (.ifCond .lt 18, 3) := by decide +kernel
theorem dX2_stamp_4 : decode cX2_stamp 4 = .ok (.iload_n 1, 1) := by decide +kernel
theorem dX2_stamp_5 : decode cX2_stamp 5 = .ok (.bipush 8, 2) := by decide +kernel
theorem dX2_stamp_7 : decode cX2_stamp 7 = .ok (.if_icmp .ge 12, 3) := by decide +kernel
theorem dX2_stamp_10 : decode cX2_stamp 10 = .ok (.aload_n 0, 1) := by decide +kernel
theorem dX2_stamp_11 : decode cX2_stamp 11 = .ok (.getfield 21, 3) := by decide +kernel
theorem dX2_stamp_14 : decode cX2_stamp 14 = .ok (.iload_n 1, 1) := by decide +kernel
theorem dX2_stamp_15 : decode cX2_stamp 15 = .ok (.iaload, 1) := by decide +kernel
theorem dX2_stamp_16 : decode cX2_stamp 16 = .ok (.goto 4, 3) := by decide +kernel
theorem dX2_stamp_19 : decode cX2_stamp 19 = .ok (.iconst 0, 1) := by decide +kernel
theorem dX2_stamp_20 : decode cX2_stamp 20 = .ok (.ireturn, 1) := by decide +kernel
theorem dX2_add_0 : decode cX2_add 0 = .ok (.aload_n 0, 1) := by decide +kernel
theorem dX2_add_1 : decode cX2_add 1 = .ok (.getfield 28, 3) := by decide +kernel
theorem dX2_add_4 : decode cX2_add 4 = .ok (.bipush 8, 2) := by decide +kernel
theorem dX2_add_6 : decode cX2_add 6 = .ok (.if_icmp .lt 4, 3) := by decide +kernel
theorem dX2_add_9 : decode cX2_add 9 = .ok (.return_, 1) := by decide +kernel
theorem dX2_add_10 : decode cX2_add 10 = .ok (.aload_n 0, 1) := by decide +kernel
theorem dX2_add_11 : decode cX2_add 11 = .ok (.getfield 28, 3) := by decide +kernel
theorem dX2_add_14 : decode cX2_add 14 = .ok (.istore 5, 2) := by decide +kernel
theorem dX2_add_16 : decode cX2_add 16 = .ok (.iload 5, 2) := by decide +kernel
theorem dX2_add_18 : decode cX2_add 18 = .ok (.ifCond .le 21, 3) := by decide +kernel
theorem dX2_add_21 : decode cX2_add 21 = .ok (.aload_n 0, 1) := by decide +kernel
theorem dX2_add_22 : decode cX2_add 22 = .ok (.iload 5, 2) := by decide +kernel
theorem dX2_add_24 : decode cX2_add 24 = .ok (.iconst 1, 1) := by decide +kernel
theorem dX2_add_25 : decode cX2_add 25 = .ok (.isub, 1) := by decide +kernel
theorem dX2_add_26 : decode cX2_add 26 = .ok (.invokevirtual 32, 3) := by decide +kernel
theorem dX2_add_29 : decode cX2_add 29 = .ok (.iload_n 3, 1) := by decide +kernel
theorem dX2_add_30 : decode cX2_add 30 = .ok (.if_icmp .le 9, 3) := by decide +kernel
theorem dX2_add_33 : decode cX2_add 33 = .ok (.iinc 5 (-1), 3) := by decide +kernel
theorem dX2_add_36 : decode cX2_add 36 = .ok (.goto (-20), 3) := by decide +kernel
theorem dX2_add_39 : decode cX2_add 39 = .ok (.aload_n 0, 1) := by decide +kernel
theorem dX2_add_40 : decode cX2_add 40 = .ok (.getfield 28, 3) := by decide +kernel
theorem dX2_add_43 : decode cX2_add 43 = .ok (.istore 6, 2) := by decide +kernel
theorem dX2_add_45 : decode cX2_add 45 = .ok (.iload 6, 2) := by decide +kernel
theorem dX2_add_47 : decode cX2_add 47 = .ok (.iload 5, 2) := by decide +kernel
theorem dX2_add_49 : decode cX2_add 49 = .ok (.if_icmp .le 19, 3) := by decide +kernel
theorem dX2_add_52 : decode cX2_add 52 = .ok (.aload_n 0, 1) := by decide +kernel
theorem dX2_add_53 : decode cX2_add 53 = .ok (.iload 6, 2) := by decide +kernel
theorem dX2_add_55 : decode cX2_add 55 = .ok (.iconst 1, 1) := by decide +kernel
theorem dX2_add_56 : decode cX2_add 56 = .ok (.isub, 1) := by decide +kernel
theorem dX2_add_57 : decode cX2_add 57 = .ok (.iload 6, 2) := by decide +kernel
theorem dX2_add_59 : decode cX2_add 59 = .ok (.invokevirtual 36, 3) := by decide +kernel
theorem dX2_add_62 : decode cX2_add 62 = .ok (.iinc 6 (-1), 3) := by decide +kernel
theorem dX2_add_65 : decode cX2_add 65 = .ok (.goto (-20), 3) := by decide +kernel
theorem dX2_add_68 : decode cX2_add 68 = .ok (.aload_n 0, 1) := by decide +kernel
theorem dX2_add_69 : decode cX2_add 69 = .ok (.dup, 1) := by decide +kernel
theorem dX2_add_70 : decode cX2_add 70 = .ok (.getfield 28, 3) := by decide +kernel
theorem dX2_add_73 : decode cX2_add 73 = .ok (.iconst 1, 1) := by decide +kernel
theorem dX2_add_74 : decode cX2_add 74 = .ok (.iadd, 1) := by decide +kernel
theorem dX2_add_75 : decode cX2_add 75 = .ok (.putfield 28, 3) := by decide +kernel
theorem dX2_add_78 : decode cX2_add 78 = .ok (.aload_n 0, 1) := by decide +kernel
theorem dX2_add_79 : decode cX2_add 79 = .ok (.iload 5, 2) := by decide +kernel
theorem dX2_add_81 : decode cX2_add 81 = .ok (.iload_n 1, 1) := by decide +kernel
theorem dX2_add_82 : decode cX2_add 82 = .ok (.iload_n 2, 1) := by decide +kernel
theorem dX2_add_83 : decode cX2_add 83 = .ok (.iload_n 3, 1) := by decide +kernel
theorem dX2_add_84 : decode cX2_add 84 = .ok (.iload 4, 2) := by decide +kernel
theorem dX2_add_86 : decode cX2_add 86 = .ok (.invokevirtual 40, 3) := by decide +kernel
theorem dX2_add_89 : decode cX2_add 89 = .ok (.return_, 1) := by decide +kernel
theorem dX2_dropFirst_0 : decode cX2_dropFirst 0 = .ok (.iconst 0, 1) := by decide +kernel
theorem dX2_dropFirst_1 : decode cX2_dropFirst 1 = .ok (.istore_n 1, 1) := by decide +kernel
theorem dX2_dropFirst_2 : decode cX2_dropFirst 2 = .ok (.iload_n 1, 1) := by decide +kernel
theorem dX2_dropFirst_3 : decode cX2_dropFirst 3 = .ok (.iconst 1, 1) := by decide +kernel
theorem dX2_dropFirst_4 : decode cX2_dropFirst 4 = .ok (.iadd, 1) := by decide +kernel
theorem dX2_dropFirst_5 : decode cX2_dropFirst 5 = .ok (.aload_n 0, 1) := by decide +kernel
theorem dX2_dropFirst_6 : decode cX2_dropFirst 6 = .ok (.getfield 28, 3) := by decide +kernel
theorem dX2_dropFirst_9 : decode cX2_dropFirst 9 = .ok (.if_icmp .ge 17, 3) := by decide +kernel
theorem dX2_dropFirst_12 : decode cX2_dropFirst 12 = .ok (.aload_n 0, 1) := by decide +kernel
theorem dX2_dropFirst_13 : decode cX2_dropFirst 13 = .ok (.iload_n 1, 1) := by decide +kernel
theorem dX2_dropFirst_14 : decode cX2_dropFirst 14 = .ok (.iconst 1, 1) := by decide +kernel
theorem dX2_dropFirst_15 : decode cX2_dropFirst 15 = .ok (.iadd, 1) := by decide +kernel
theorem dX2_dropFirst_16 : decode cX2_dropFirst 16 = .ok (.iload_n 1, 1) := by decide +kernel
theorem dX2_dropFirst_17 : decode cX2_dropFirst 17 = .ok (.invokevirtual 36, 3) := by decide +kernel
theorem dX2_dropFirst_20 : decode cX2_dropFirst 20 = .ok (.iinc 1 1, 3) := by decide +kernel
theorem dX2_dropFirst_23 : decode cX2_dropFirst 23 = .ok (.goto (-21), 3) := by decide +kernel
theorem dX2_dropFirst_26 : decode cX2_dropFirst 26 = .ok (.aload_n 0, 1) := by decide +kernel
theorem dX2_dropFirst_27 : decode cX2_dropFirst 27 = .ok (.iconst 0, 1) := by decide +kernel
theorem dX2_dropFirst_28 : decode cX2_dropFirst 28 = .ok (.aload_n 0, 1) := by decide +kernel
theorem dX2_dropFirst_29 : decode cX2_dropFirst 29 = .ok (.getfield 28, 3) := by decide +kernel
theorem dX2_dropFirst_32 : decode cX2_dropFirst 32 = .ok (.iconst 1, 1) := by decide +kernel
theorem dX2_dropFirst_33 : decode cX2_dropFirst 33 = .ok (.isub, 1) := by decide +kernel
theorem dX2_dropFirst_34 : decode cX2_dropFirst 34 = .ok (.invokestatic 44, 3) := by decide +kernel
theorem dX2_dropFirst_37 : decode cX2_dropFirst 37 = .ok (.putfield 28, 3) := by decide +kernel
theorem dX2_dropFirst_40 : decode cX2_dropFirst 40 = .ok (.return_, 1) := by decide +kernel
theorem dX2_makeEmpty_0 : decode cX2_makeEmpty 0 = .ok (.aload_n 0, 1) := by decide +kernel
theorem dX2_makeEmpty_1 : decode cX2_makeEmpty 1 = .ok (.iconst 0, 1) := by decide +kernel
theorem dX2_makeEmpty_2 : decode cX2_makeEmpty 2 = .ok (.putfield 28, 3) := by decide +kernel
theorem dX2_makeEmpty_5 : decode cX2_makeEmpty 5 = .ok (.return_, 1) := by decide +kernel
theorem dX2_move_0 : decode cX2_move 0 = .ok (.iload_n 1, 1) := by decide +kernel
theorem dX2_move_1 : decode cX2_move 1 = .ok (.ifCond .lt 67, 3) := by decide +kernel
theorem dX2_move_4 : decode cX2_move 4 = .ok (.iload_n 1, 1) := by decide +kernel
theorem dX2_move_5 : decode cX2_move 5 = .ok (.bipush 8, 2) := by decide +kernel
theorem dX2_move_7 : decode cX2_move 7 = .ok (.if_icmp .ge 61, 3) := by decide +kernel
theorem dX2_move_10 : decode cX2_move 10 = .ok (.iload_n 2, 1) := by decide +kernel
theorem dX2_move_11 : decode cX2_move 11 = .ok (.ifCond .lt 57, 3) := by decide +kernel
theorem dX2_move_14 : decode cX2_move 14 = .ok (.iload_n 2, 1) := by decide +kernel
theorem dX2_move_15 : decode cX2_move 15 = .ok (.bipush 8, 2) := by decide +kernel
theorem dX2_move_17 : decode cX2_move 17 = .ok (.if_icmp .ge 51, 3) := by decide +kernel
theorem dX2_move_20 : decode cX2_move 20 = .ok (.aload_n 0, 1) := by decide +kernel
theorem dX2_move_21 : decode cX2_move 21 = .ok (.getfield 9, 3) := by decide +kernel
theorem dX2_move_24 : decode cX2_move 24 = .ok (.iload_n 2, 1) := by decide +kernel
theorem dX2_move_25 : decode cX2_move 25 = .ok (.aload_n 0, 1) := by decide +kernel
theorem dX2_move_26 : decode cX2_move 26 = .ok (.getfield 9, 3) := by decide +kernel
theorem dX2_move_29 : decode cX2_move 29 = .ok (.iload_n 1, 1) := by decide +kernel
theorem dX2_move_30 : decode cX2_move 30 = .ok (.iaload, 1) := by decide +kernel
theorem dX2_move_31 : decode cX2_move 31 = .ok (.iastore, 1) := by decide +kernel
theorem dX2_move_32 : decode cX2_move 32 = .ok (.aload_n 0, 1) := by decide +kernel
theorem dX2_move_33 : decode cX2_move 33 = .ok (.getfield 15, 3) := by decide +kernel
theorem dX2_move_36 : decode cX2_move 36 = .ok (.iload_n 2, 1) := by decide +kernel
theorem dX2_move_37 : decode cX2_move 37 = .ok (.aload_n 0, 1) := by decide +kernel
theorem dX2_move_38 : decode cX2_move 38 = .ok (.getfield 15, 3) := by decide +kernel
theorem dX2_move_41 : decode cX2_move 41 = .ok (.iload_n 1, 1) := by decide +kernel
theorem dX2_move_42 : decode cX2_move 42 = .ok (.iaload, 1) := by decide +kernel
theorem dX2_move_43 : decode cX2_move 43 = .ok (.iastore, 1) := by decide +kernel
theorem dX2_move_44 : decode cX2_move 44 = .ok (.aload_n 0, 1) := by decide +kernel
theorem dX2_move_45 : decode cX2_move 45 = .ok (.getfield 18, 3) := by decide +kernel
theorem dX2_move_48 : decode cX2_move 48 = .ok (.iload_n 2, 1) := by decide +kernel
theorem dX2_move_49 : decode cX2_move 49 = .ok (.aload_n 0, 1) := by decide +kernel
theorem dX2_move_50 : decode cX2_move 50 = .ok (.getfield 18, 3) := by decide +kernel
theorem dX2_move_53 : decode cX2_move 53 = .ok (.iload_n 1, 1) := by decide +kernel
theorem dX2_move_54 : decode cX2_move 54 = .ok (.iaload, 1) := by decide +kernel
theorem dX2_move_55 : decode cX2_move 55 = .ok (.iastore, 1) := by decide +kernel
theorem dX2_move_56 : decode cX2_move 56 = .ok (.aload_n 0, 1) := by decide +kernel
theorem dX2_move_57 : decode cX2_move 57 = .ok (.getfield 21, 3) := by decide +kernel
theorem dX2_move_60 : decode cX2_move 60 = .ok (.iload_n 2, 1) := by decide +kernel
theorem dX2_move_61 : decode cX2_move 61 = .ok (.aload_n 0, 1) := by decide +kernel
theorem dX2_move_62 : decode cX2_move 62 = .ok (.getfield 21, 3) := by decide +kernel
theorem dX2_move_65 : decode cX2_move 65 = .ok (.iload_n 1, 1) := by decide +kernel
theorem dX2_move_66 : decode cX2_move 66 = .ok (.iaload, 1) := by decide +kernel
theorem dX2_move_67 : decode cX2_move 67 = .ok (.iastore, 1) := by decide +kernel
theorem dX2_move_68 : decode cX2_move 68 = .ok (.return_, 1) := by decide +kernel
theorem dX2_put_0 : decode cX2_put 0 = .ok (.iload_n 1, 1) := by decide +kernel
theorem dX2_put_1 : decode cX2_put 1 = .ok (.ifCond .lt 39, 3) := by decide +kernel
theorem dX2_put_4 : decode cX2_put 4 = .ok (.iload_n 1, 1) := by decide +kernel
theorem dX2_put_5 : decode cX2_put 5 = .ok (.bipush 8, 2) := by decide +kernel
theorem dX2_put_7 : decode cX2_put 7 = .ok (.if_icmp .ge 33, 3) := by decide +kernel
theorem dX2_put_10 : decode cX2_put 10 = .ok (.aload_n 0, 1) := by decide +kernel
theorem dX2_put_11 : decode cX2_put 11 = .ok (.getfield 9, 3) := by decide +kernel
theorem dX2_put_14 : decode cX2_put 14 = .ok (.iload_n 1, 1) := by decide +kernel
theorem dX2_put_15 : decode cX2_put 15 = .ok (.iload_n 2, 1) := by decide +kernel
theorem dX2_put_16 : decode cX2_put 16 = .ok (.iastore, 1) := by decide +kernel
theorem dX2_put_17 : decode cX2_put 17 = .ok (.aload_n 0, 1) := by decide +kernel
theorem dX2_put_18 : decode cX2_put 18 = .ok (.getfield 15, 3) := by decide +kernel
theorem dX2_put_21 : decode cX2_put 21 = .ok (.iload_n 1, 1) := by decide +kernel
theorem dX2_put_22 : decode cX2_put 22 = .ok (.iload_n 3, 1) := by decide +kernel
theorem dX2_put_23 : decode cX2_put 23 = .ok (.iastore, 1) := by decide +kernel
theorem dX2_put_24 : decode cX2_put 24 = .ok (.aload_n 0, 1) := by decide +kernel
theorem dX2_put_25 : decode cX2_put 25 = .ok (.getfield 18, 3) := by decide +kernel
theorem dX2_put_28 : decode cX2_put 28 = .ok (.iload_n 1, 1) := by decide +kernel
theorem dX2_put_29 : decode cX2_put 29 = .ok (.iload 4, 2) := by decide +kernel
theorem dX2_put_31 : decode cX2_put 31 = .ok (.iastore, 1) := by decide +kernel
theorem dX2_put_32 : decode cX2_put 32 = .ok (.aload_n 0, 1) := by decide +kernel
theorem dX2_put_33 : decode cX2_put 33 = .ok (.getfield 21, 3) := by decide +kernel
theorem dX2_put_36 : decode cX2_put 36 = .ok (.iload_n 1, 1) := by decide +kernel
theorem dX2_put_37 : decode cX2_put 37 = .ok (.iload 5, 2) := by decide +kernel
theorem dX2_put_39 : decode cX2_put 39 = .ok (.iastore, 1) := by decide +kernel
theorem dX2_put_40 : decode cX2_put 40 = .ok (.return_, 1) := by decide +kernel
theorem dX3_init_0 : decode cX3_init 0 = .ok (.aload_n 0, 1) := by decide +kernel
theorem dX3_init_1 : decode cX3_init 1 = .ok (.invokespecial 3, 3) := by decide +kernel
theorem dX3_init_4 : decode cX3_init 4 = .ok (.return_, 1) := by decide +kernel
theorem dX3_run_0 : decode cX3_run 0 = .ok (.aload_n 0, 1) := by decide +kernel
theorem dX3_run_1 : decode cX3_run 1 = .ok (.iconst 0, 1) := by decide +kernel
theorem dX3_run_2 : decode cX3_run 2 = .ok (.putfield 9, 3) := by decide +kernel
theorem dX3_run_5 : decode cX3_run 5 = .ok (.aload_n 0, 1) := by decide +kernel
theorem dX3_run_6 : decode cX3_run 6 = .ok (.iconst 0, 1) := by decide +kernel
theorem dX3_run_7 : decode cX3_run 7 = .ok (.putfield 15, 3) := by decide +kernel
theorem dX3_run_10 : decode cX3_run 10 = .ok (.aload_n 1, 1) := by decide +kernel
theorem dX3_run_11 : decode cX3_run 11 = .ok (.invokevirtual 19, 3) := by decide +kernel
theorem dX3_run_14 : decode cX3_run 14 = .ok (.iconst 0, 1) := by decide +kernel
theorem dX3_run_15 : decode cX3_run 15 = .ok (.istore_n 3, 1) := by decide +kernel
theorem dX3_run_16 : decode cX3_run 16 = .ok (.iload_n 3, 1) := by decide +kernel
theorem dX3_run_17 : decode cX3_run 17 = .ok (.bipush 60, 2) := by decide +kernel
theorem dX3_run_19 : decode cX3_run 19 = .ok (.if_icmp .ge 69, 3) := by decide +kernel
theorem dX3_run_22 : decode cX3_run 22 = .ok (.aload_n 1, 1) := by decide +kernel
theorem dX3_run_23 : decode cX3_run 23 = .ok (.invokevirtual 24, 3) := by decide +kernel
theorem dX3_run_26 : decode cX3_run 26 = .ok (.ifCond .eq 62, 3) := by decide +kernel
theorem dX3_run_29 : decode cX3_run 29 = .ok (.aload_n 0, 1) := by decide +kernel
theorem dX3_run_30 : decode cX3_run 30 = .ok (.aload_n 1, 1) := by decide +kernel
theorem dX3_run_31 : decode cX3_run 31 = .ok (.getfield 28, 3) := by decide +kernel
theorem dX3_run_34 : decode cX3_run 34 = .ok (.putfield 31, 3) := by decide +kernel
theorem dX3_run_37 : decode cX3_run 37 = .ok (.aload_n 1, 1) := by decide +kernel
theorem dX3_run_38 : decode cX3_run 38 = .ok (.invokevirtual 34, 3) := by decide +kernel
theorem dX3_run_41 : decode cX3_run 41 = .ok (.ifCond .ne 11, 3) := by decide +kernel
theorem dX3_run_44 : decode cX3_run 44 = .ok (.aload_n 0, 1) := by decide +kernel
theorem dX3_run_45 : decode cX3_run 45 = .ok (.iconst 1, 1) := by decide +kernel
theorem dX3_run_46 : decode cX3_run 46 = .ok (.bipush (-4), 2) := by decide +kernel
theorem dX3_run_48 : decode cX3_run 48 = .ok (.invokevirtual 37, 3) := by decide +kernel
theorem dX3_run_51 : decode cX3_run 51 = .ok (.return_, 1) := by decide +kernel
theorem dX3_run_52 : decode cX3_run 52 = .ok (.aload_n 1, 1) := by decide +kernel
theorem dX3_run_53 : decode cX3_run 53 = .ok (.aload_n 2, 1) := by decide +kernel
theorem dX3_run_54 : decode cX3_run 54 = .ok (.invokestatic 41, 3) := by decide +kernel
theorem dX3_run_57 : decode cX3_run 57 = .ok (.istore 4, 2) := by decide +kernel
theorem dX3_run_59 : decode cX3_run 59 = .ok (.iload 4, 2) := by decide +kernel
theorem dX3_run_61 : decode cX3_run 61 = .ok (.ifCond .ge 11, 3) := by decide +kernel
theorem dX3_run_64 : decode cX3_run 64 = .ok (.aload_n 0, 1) := by decide +kernel
theorem dX3_run_65 : decode cX3_run 65 = .ok (.iconst 2, 1) := by decide +kernel
theorem dX3_run_66 : decode cX3_run 66 = .ok (.iload 4, 2) := by decide +kernel
theorem dX3_run_68 : decode cX3_run 68 = .ok (.invokevirtual 37, 3) := by decide +kernel
theorem dX3_run_71 : decode cX3_run 71 = .ok (.return_, 1) := by decide +kernel
theorem dX3_run_72 : decode cX3_run 72 = .ok (.aload_n 0, 1) := by decide +kernel
theorem dX3_run_73 : decode cX3_run 73 = .ok (.dup, 1) := by decide +kernel
theorem dX3_run_74 : decode cX3_run 74 = .ok (.getfield 9, 3) := by decide +kernel
theorem dX3_run_77 : decode cX3_run 77 = .ok (.iconst 1, 1) := by decide +kernel
theorem dX3_run_78 : decode cX3_run 78 = .ok (.iadd, 1) := by decide +kernel
theorem dX3_run_79 : decode cX3_run 79 = .ok (.putfield 9, 3) := by decide +kernel
theorem dX3_run_82 : decode cX3_run 82 = .ok (.iinc 3 1, 3) := by decide +kernel
theorem dX3_run_85 : decode cX3_run 85 = .ok (.goto (-69), 3) := by decide +kernel
theorem dX3_run_88 : decode cX3_run 88 = .ok (.return_, 1) := by decide +kernel
theorem dX3_hasFault_0 : decode cX3_hasFault 0 = .ok (.aload_n 0, 1) := by decide +kernel
theorem dX3_hasFault_1 : decode cX3_hasFault 1 = .ok (.getfield 15, 3) := by decide +kernel
theorem dX3_hasFault_4 : decode cX3_hasFault 4 = .ok (.ireturn, 1) := by decide +kernel
theorem dX3_commandsDone_0 : decode cX3_commandsDone 0 = .ok (.aload_n 0, 1) := by decide +kernel
theorem dX3_commandsDone_1 : decode cX3_commandsDone 1 = .ok (.getfield 9, 3) := by decide +kernel
theorem dX3_commandsDone_4 : decode cX3_commandsDone 4 = .ok (.ireturn, 1) := by decide +kernel
theorem dX3_faultFact_0 : decode cX3_faultFact 0 = .ok (.aload_n 0, 1) := by decide +kernel
theorem dX3_faultFact_1 : decode cX3_faultFact 1 = .ok (.getfield 15, 3) := by decide +kernel
theorem dX3_faultFact_4 : decode cX3_faultFact 4 = .ok (.ifCond .ne 6, 3) := by decide +kernel
theorem dX3_faultFact_7 : decode cX3_faultFact 7 = .ok (.bipush (-4), 2) := by decide +kernel
theorem dX3_faultFact_9 : decode cX3_faultFact 9 = .ok (.ireturn, 1) := by decide +kernel
theorem dX3_faultFact_10 : decode cX3_faultFact 10 = .ok (.iload_n 1, 1) := by decide +kernel
theorem dX3_faultFact_11 : decode cX3_faultFact 11 = .ok (.ifCond .ne 8, 3) := by decide +kernel
theorem dX3_faultFact_14 : decode cX3_faultFact 14 = .ok (.aload_n 0, 1) := by decide +kernel
theorem dX3_faultFact_15 : decode cX3_faultFact 15 = .ok (.getfield 31, 3) := by decide +kernel
theorem dX3_faultFact_18 : decode cX3_faultFact 18 = .ok (.ireturn, 1) := by decide +kernel
theorem dX3_faultFact_19 : decode cX3_faultFact 19 = .ok (.iload_n 1, 1) := by decide +kernel
theorem dX3_faultFact_20 : decode cX3_faultFact 20 = .ok (.iconst 1, 1) := by decide +kernel
theorem dX3_faultFact_21 : decode cX3_faultFact 21 = .ok (.if_icmp .ne 10, 3) := by decide +kernel
theorem dX3_faultFact_24 : decode cX3_faultFact 24 = .ok (.aload_n 0, 1) := by decide +kernel
theorem dX3_faultFact_25 : decode cX3_faultFact 25 = .ok (.getfield 45, 3) := by decide +kernel
theorem dX3_faultFact_28 : decode cX3_faultFact 28 = .ok (.goto 7, 3) := by decide +kernel
theorem dX3_faultFact_31 : decode cX3_faultFact 31 = .ok (.aload_n 0, 1) := by decide +kernel
theorem dX3_faultFact_32 : decode cX3_faultFact 32 = .ok (.getfield 48, 3) := by decide +kernel
theorem dX3_faultFact_35 : decode cX3_faultFact 35 = .ok (.ireturn, 1) := by decide +kernel
theorem dX3_tellFault_0 : decode cX3_tellFault 0 = .ok (.aload_n 0, 1) := by decide +kernel
theorem dX3_tellFault_1 : decode cX3_tellFault 1 = .ok (.iconst 1, 1) := by decide +kernel
theorem dX3_tellFault_2 : decode cX3_tellFault 2 = .ok (.putfield 15, 3) := by decide +kernel
theorem dX3_tellFault_5 : decode cX3_tellFault 5 = .ok (.aload_n 0, 1) := by decide +kernel
theorem dX3_tellFault_6 : decode cX3_tellFault 6 = .ok (.iload_n 1, 1) := by decide +kernel
theorem dX3_tellFault_7 : decode cX3_tellFault 7 = .ok (.putfield 45, 3) := by decide +kernel
theorem dX3_tellFault_10 : decode cX3_tellFault 10 = .ok (.aload_n 0, 1) := by decide +kernel
theorem dX3_tellFault_11 : decode cX3_tellFault 11 = .ok (.iload_n 2, 1) := by decide +kernel
theorem dX3_tellFault_12 : decode cX3_tellFault 12 = .ok (.putfield 48, 3) := by decide +kernel
theorem dX3_tellFault_15 : decode cX3_tellFault 15 = .ok (.return_, 1) := by decide +kernel
theorem dX3_perform_0 : decode cX3_perform 0 = .ok (.aload_n 0, 1) := by decide +kernel
theorem dX3_perform_1 : decode cX3_perform 1 = .ok (.getfield 51, 3) := by decide +kernel
theorem dX3_perform_4 : decode cX3_perform 4 = .ok (.tableswitch 174 99 120 #[156, 174, 165, 174, 174, 174, 174, 174, 174, 174, 174, 174, 146, 174, 174, 174, 151, 132, 118, 174, 104, 141], 104) := by decide +kernel
theorem dX3_perform_108 : decode cX3_perform 108 = .ok (.aload_n 1, 1) := by decide +kernel
theorem dX3_perform_109 : decode cX3_perform 109 = .ok (.aload_n 0, 1) := by decide +kernel
theorem dX3_perform_110 : decode cX3_perform 110 = .ok (.getfield 54, 3) := by decide +kernel
theorem dX3_perform_113 : decode cX3_perform 113 = .ok (.aload_n 0, 1) := by decide +kernel
theorem dX3_perform_114 : decode cX3_perform 114 = .ok (.getfield 57, 3) := by decide +kernel
theorem dX3_perform_117 : decode cX3_perform 117 = .ok (.iconst 2, 1) := by decide +kernel
theorem dX3_perform_118 : decode cX3_perform 118 = .ok (.invokevirtual 60, 3) := by decide +kernel
theorem dX3_perform_121 : decode cX3_perform 121 = .ok (.ireturn, 1) := by decide +kernel
theorem dX3_perform_122 : decode cX3_perform 122 = .ok (.aload_n 1, 1) := by decide +kernel
theorem dX3_perform_123 : decode cX3_perform 123 = .ok (.aload_n 0, 1) := by decide +kernel
theorem dX3_perform_124 : decode cX3_perform 124 = .ok (.getfield 54, 3) := by decide +kernel
theorem dX3_perform_127 : decode cX3_perform 127 = .ok (.aload_n 0, 1) := by decide +kernel
theorem dX3_perform_128 : decode cX3_perform 128 = .ok (.getfield 57, 3) := by decide +kernel
theorem dX3_perform_131 : decode cX3_perform 131 = .ok (.iconst 1, 1) := by decide +kernel
theorem dX3_perform_132 : decode cX3_perform 132 = .ok (.invokevirtual 60, 3) := by decide +kernel
theorem dX3_perform_135 : decode cX3_perform 135 = .ok (.ireturn, 1) := by decide +kernel
theorem dX3_perform_136 : decode cX3_perform 136 = .ok (.aload_n 1, 1) := by decide +kernel
theorem dX3_perform_137 : decode cX3_perform 137 = .ok (.aload_n 0, 1) := by decide +kernel
theorem dX3_perform_138 : decode cX3_perform 138 = .ok (.getfield 54, 3) := by decide +kernel
theorem dX3_perform_141 : decode cX3_perform 141 = .ok (.invokevirtual 66, 3) := by decide +kernel
theorem dX3_perform_144 : decode cX3_perform 144 = .ok (.ireturn, 1) := by decide +kernel
theorem dX3_perform_145 : decode cX3_perform 145 = .ok (.aload_n 1, 1) := by decide +kernel
theorem dX3_perform_146 : decode cX3_perform 146 = .ok (.invokevirtual 70, 3) := by decide +kernel
theorem dX3_perform_149 : decode cX3_perform 149 = .ok (.ireturn, 1) := by decide +kernel
theorem dX3_perform_150 : decode cX3_perform 150 = .ok (.aload_n 1, 1) := by decide +kernel
theorem dX3_perform_151 : decode cX3_perform 151 = .ok (.invokevirtual 74, 3) := by decide +kernel
theorem dX3_perform_154 : decode cX3_perform 154 = .ok (.ireturn, 1) := by decide +kernel
theorem dX3_perform_155 : decode cX3_perform 155 = .ok (.aload_n 1, 1) := by decide +kernel
theorem dX3_perform_156 : decode cX3_perform 156 = .ok (.invokevirtual 77, 3) := by decide +kernel
theorem dX3_perform_159 : decode cX3_perform 159 = .ok (.ireturn, 1) := by decide +kernel
theorem dX3_perform_160 : decode cX3_perform 160 = .ok (.aload_n 1, 1) := by decide +kernel
theorem dX3_perform_161 : decode cX3_perform 161 = .ok (.aload_n 0, 1) := by decide +kernel
theorem dX3_perform_162 : decode cX3_perform 162 = .ok (.getfield 54, 3) := by decide +kernel
theorem dX3_perform_165 : decode cX3_perform 165 = .ok (.invokevirtual 80, 3) := by decide +kernel
theorem dX3_perform_168 : decode cX3_perform 168 = .ok (.ireturn, 1) := by decide +kernel
theorem dX3_perform_169 : decode cX3_perform 169 = .ok (.aload_n 1, 1) := by decide +kernel
theorem dX3_perform_170 : decode cX3_perform 170 = .ok (.aload_n 0, 1) := by decide +kernel
theorem dX3_perform_171 : decode cX3_perform 171 = .ok (.getfield 54, 3) := by decide +kernel
theorem dX3_perform_174 : decode cX3_perform 174 = .ok (.invokevirtual 83, 3) := by decide +kernel
theorem dX3_perform_177 : decode cX3_perform 177 = .ok (.ireturn, 1) := by decide +kernel
theorem dX3_perform_178 : decode cX3_perform 178 = .ok (.bipush (-2), 2) := by decide +kernel
theorem dX3_perform_180 : decode cX3_perform 180 = .ok (.ireturn, 1) := by decide +kernel
theorem dX4_init_0 : decode cX4_init 0 = .ok (.aload_n 0, 1) := by decide +kernel
theorem dX4_init_1 : decode cX4_init 1 = .ok (.invokespecial 3, 3) := by decide +kernel
theorem dX4_init_4 : decode cX4_init 4 = .ok (.aload_n 0, 1) := by decide +kernel
theorem dX4_init_5 : decode cX4_init 5 = .ok (.new 9, 3) := by decide +kernel
theorem dX4_init_8 : decode cX4_init 8 = .ok (.dup, 1) := by decide +kernel
theorem dX4_init_9 : decode cX4_init 9 = .ok (.invokespecial 11, 3) := by decide +kernel
theorem dX4_init_12 : decode cX4_init 12 = .ok (.putfield 12, 3) := by decide +kernel
theorem dX4_init_15 : decode cX4_init 15 = .ok (.aload_n 0, 1) := by decide +kernel
theorem dX4_init_16 : decode cX4_init 16 = .ok (.new 18, 3) := by decide +kernel
theorem dX4_init_19 : decode cX4_init 19 = .ok (.dup, 1) := by decide +kernel
theorem dX4_init_20 : decode cX4_init 20 = .ok (.invokespecial 20, 3) := by decide +kernel
theorem dX4_init_23 : decode cX4_init 23 = .ok (.putfield 21, 3) := by decide +kernel
theorem dX4_init_26 : decode cX4_init 26 = .ok (.aload_n 0, 1) := by decide +kernel
theorem dX4_init_27 : decode cX4_init 27 = .ok (.new 25, 3) := by decide +kernel
theorem dX4_init_30 : decode cX4_init 30 = .ok (.dup, 1) := by decide +kernel
theorem dX4_init_31 : decode cX4_init 31 = .ok (.invokespecial 27, 3) := by decide +kernel
theorem dX4_init_34 : decode cX4_init 34 = .ok (.putfield 28, 3) := by decide +kernel
theorem dX4_init_37 : decode cX4_init 37 = .ok (.aload_n 0, 1) := by decide +kernel
theorem dX4_init_38 : decode cX4_init 38 = .ok (.new 32, 3) := by decide +kernel
theorem dX4_init_41 : decode cX4_init 41 = .ok (.dup, 1) := by decide +kernel
theorem dX4_init_42 : decode cX4_init 42 = .ok (.invokespecial 34, 3) := by decide +kernel
theorem dX4_init_45 : decode cX4_init 45 = .ok (.putfield 35, 3) := by decide +kernel
theorem dX4_init_48 : decode cX4_init 48 = .ok (.aload_n 0, 1) := by decide +kernel
theorem dX4_init_49 : decode cX4_init 49 = .ok (.iconst 4, 1) := by decide +kernel
theorem dX4_init_50 : decode cX4_init 50 = .ok (.newarray .int, 2) := by decide +kernel
theorem dX4_init_52 : decode cX4_init 52 = .ok (.putfield 39, 3) := by decide +kernel
theorem dX4_init_55 : decode cX4_init 55 = .ok (.aload_n 0, 1) := by decide +kernel
theorem dX4_init_56 : decode cX4_init 56 = .ok (.bipush 8, 2) := by decide +kernel
theorem dX4_init_58 : decode cX4_init 58 = .ok (.newarray .int, 2) := by decide +kernel
theorem dX4_init_60 : decode cX4_init 60 = .ok (.putfield 43, 3) := by decide +kernel
theorem dX4_init_63 : decode cX4_init 63 = .ok (.aload_n 0, 1) := by decide +kernel
theorem dX4_init_64 : decode cX4_init 64 = .ok (.iconst 2, 1) := by decide +kernel
theorem dX4_init_65 : decode cX4_init 65 = .ok (.newarray .int, 2) := by decide +kernel
theorem dX4_init_67 : decode cX4_init 67 = .ok (.putfield 46, 3) := by decide +kernel
theorem dX4_init_70 : decode cX4_init 70 = .ok (.aload_n 0, 1) := by decide +kernel
theorem dX4_init_71 : decode cX4_init 71 = .ok (.bipush 12, 2) := by decide +kernel
theorem dX4_init_73 : decode cX4_init 73 = .ok (.newarray .int, 2) := by decide +kernel
theorem dX4_init_75 : decode cX4_init 75 = .ok (.putfield 49, 3) := by decide +kernel
theorem dX4_init_78 : decode cX4_init 78 = .ok (.aload_n 0, 1) := by decide +kernel
theorem dX4_init_79 : decode cX4_init 79 = .ok (.iconst 1, 1) := by decide +kernel
theorem dX4_init_80 : decode cX4_init 80 = .ok (.putfield 52, 3) := by decide +kernel
theorem dX4_init_83 : decode cX4_init 83 = .ok (.getstatic 56, 3) := by decide +kernel
theorem dX4_init_86 : decode cX4_init 86 = .ok (.aload_n 0, 1) := by decide +kernel
theorem dX4_init_87 : decode cX4_init 87 = .ok (.getfield 39, 3) := by decide +kernel
theorem dX4_init_90 : decode cX4_init 90 = .ok (.invokestatic 59, 3) := by decide +kernel
theorem dX4_init_93 : decode cX4_init 93 = .ok (.return_, 1) := by decide +kernel
theorem dX4_copyFrom_0 : decode cX4_copyFrom 0 = .ok (.aload_n 0, 1) := by decide +kernel
theorem dX4_copyFrom_1 : decode cX4_copyFrom 1 = .ok (.getfield 12, 3) := by decide +kernel
theorem dX4_copyFrom_4 : decode cX4_copyFrom 4 = .ok (.aload_n 1, 1) := by decide +kernel
theorem dX4_copyFrom_5 : decode cX4_copyFrom 5 = .ok (.getfield 12, 3) := by decide +kernel
theorem dX4_copyFrom_8 : decode cX4_copyFrom 8 = .ok (.invokevirtual 63, 3) := by decide +kernel
theorem dX4_copyFrom_11 : decode cX4_copyFrom 11 = .ok (.aload_n 0, 1) := by decide +kernel
theorem dX4_copyFrom_12 : decode cX4_copyFrom 12 = .ok (.getfield 21, 3) := by decide +kernel
theorem dX4_copyFrom_15 : decode cX4_copyFrom 15 = .ok (.aload_n 1, 1) := by decide +kernel
theorem dX4_copyFrom_16 : decode cX4_copyFrom 16 = .ok (.getfield 21, 3) := by decide +kernel
theorem dX4_copyFrom_19 : decode cX4_copyFrom 19 = .ok (.invokevirtual 67, 3) := by decide +kernel
theorem dX4_copyFrom_22 : decode cX4_copyFrom 22 = .ok (.aload_n 0, 1) := by decide +kernel
theorem dX4_copyFrom_23 : decode cX4_copyFrom 23 = .ok (.getfield 28, 3) := by decide +kernel
theorem dX4_copyFrom_26 : decode cX4_copyFrom 26 = .ok (.aload_n 1, 1) := by decide +kernel
theorem dX4_copyFrom_27 : decode cX4_copyFrom 27 = .ok (.getfield 28, 3) := by decide +kernel
theorem dX4_copyFrom_30 : decode cX4_copyFrom 30 = .ok (.invokevirtual 70, 3) := by decide +kernel
theorem dX4_copyFrom_33 : decode cX4_copyFrom 33 = .ok (.aload_n 0, 1) := by decide +kernel
theorem dX4_copyFrom_34 : decode cX4_copyFrom 34 = .ok (.getfield 35, 3) := by decide +kernel
theorem dX4_copyFrom_37 : decode cX4_copyFrom 37 = .ok (.aload_n 1, 1) := by decide +kernel
theorem dX4_copyFrom_38 : decode cX4_copyFrom 38 = .ok (.getfield 35, 3) := by decide +kernel
theorem dX4_copyFrom_41 : decode cX4_copyFrom 41 = .ok (.invokevirtual 73, 3) := by decide +kernel
theorem dX4_copyFrom_44 : decode cX4_copyFrom 44 = .ok (.aload_n 1, 1) := by decide +kernel
theorem dX4_copyFrom_45 : decode cX4_copyFrom 45 = .ok (.getfield 39, 3) := by decide +kernel
theorem dX4_copyFrom_48 : decode cX4_copyFrom 48 = .ok (.aload_n 0, 1) := by decide +kernel
theorem dX4_copyFrom_49 : decode cX4_copyFrom 49 = .ok (.getfield 39, 3) := by decide +kernel
theorem dX4_copyFrom_52 : decode cX4_copyFrom 52 = .ok (.invokestatic 59, 3) := by decide +kernel
theorem dX4_copyFrom_55 : decode cX4_copyFrom 55 = .ok (.aload_n 1, 1) := by decide +kernel
theorem dX4_copyFrom_56 : decode cX4_copyFrom 56 = .ok (.getfield 43, 3) := by decide +kernel
theorem dX4_copyFrom_59 : decode cX4_copyFrom 59 = .ok (.aload_n 0, 1) := by decide +kernel
theorem dX4_copyFrom_60 : decode cX4_copyFrom 60 = .ok (.getfield 43, 3) := by decide +kernel
theorem dX4_copyFrom_63 : decode cX4_copyFrom 63 = .ok (.invokestatic 59, 3) := by decide +kernel
theorem dX4_copyFrom_66 : decode cX4_copyFrom 66 = .ok (.aload_n 1, 1) := by decide +kernel
theorem dX4_copyFrom_67 : decode cX4_copyFrom 67 = .ok (.getfield 46, 3) := by decide +kernel
theorem dX4_copyFrom_70 : decode cX4_copyFrom 70 = .ok (.aload_n 0, 1) := by decide +kernel
theorem dX4_copyFrom_71 : decode cX4_copyFrom 71 = .ok (.getfield 46, 3) := by decide +kernel
theorem dX4_copyFrom_74 : decode cX4_copyFrom 74 = .ok (.invokestatic 59, 3) := by decide +kernel
theorem dX4_copyFrom_77 : decode cX4_copyFrom 77 = .ok (.aload_n 0, 1) := by decide +kernel
theorem dX4_copyFrom_78 : decode cX4_copyFrom 78 = .ok (.aload_n 1, 1) := by decide +kernel
theorem dX4_copyFrom_79 : decode cX4_copyFrom 79 = .ok (.getfield 52, 3) := by decide +kernel
theorem dX4_copyFrom_82 : decode cX4_copyFrom 82 = .ok (.putfield 52, 3) := by decide +kernel
theorem dX4_copyFrom_85 : decode cX4_copyFrom 85 = .ok (.aload_n 0, 1) := by decide +kernel
theorem dX4_copyFrom_86 : decode cX4_copyFrom 86 = .ok (.aload_n 1, 1) := by decide +kernel
theorem dX4_copyFrom_87 : decode cX4_copyFrom 87 = .ok (.getfield 76, 3) := by decide +kernel
theorem dX4_copyFrom_90 : decode cX4_copyFrom 90 = .ok (.putfield 76, 3) := by decide +kernel
theorem dX4_copyFrom_93 : decode cX4_copyFrom 93 = .ok (.aload_n 0, 1) := by decide +kernel
theorem dX4_copyFrom_94 : decode cX4_copyFrom 94 = .ok (.aload_n 1, 1) := by decide +kernel
theorem dX4_copyFrom_95 : decode cX4_copyFrom 95 = .ok (.getfield 80, 3) := by decide +kernel
theorem dX4_copyFrom_98 : decode cX4_copyFrom 98 = .ok (.putfield 80, 3) := by decide +kernel
theorem dX4_copyFrom_101 : decode cX4_copyFrom 101 = .ok (.return_, 1) := by decide +kernel
theorem dX4_askFor_0 : decode cX4_askFor 0 = .ok (.iload_n 1, 1) := by decide +kernel
theorem dX4_askFor_1 : decode cX4_askFor 1 = .ok (.iconst 0, 1) := by decide +kernel
theorem dX4_askFor_2 : decode cX4_askFor 2 = .ok (.bipush 11, 2) := by decide +kernel
theorem dX4_askFor_4 : decode cX4_askFor 4 = .ok (.invokestatic 83, 3) := by decide +kernel
theorem dX4_askFor_7 : decode cX4_askFor 7 = .ok (.ifCond .eq 14, 3) := by decide +kernel
theorem dX4_askFor_10 : decode cX4_askFor 10 = .ok (.iload_n 2, 1) := by decide +kernel
theorem dX4_askFor_11 : decode cX4_askFor 11 = .ok (.iconst 0, 1) := by decide +kernel
theorem dX4_askFor_12 : decode cX4_askFor 12 = .ok (.sipush 999, 3) := by decide +kernel
theorem dX4_askFor_15 : decode cX4_askFor 15 = .ok (.invokestatic 83, 3) := by decide +kernel
theorem dX4_askFor_18 : decode cX4_askFor 18 = .ok (.ifCond .ne 5, 3) := by decide +kernel
theorem dX4_askFor_21 : decode cX4_askFor 21 = .ok (.iconst (-1), 1) := by decide +kernel
theorem dX4_askFor_22 : decode cX4_askFor 22 = .ok (.ireturn, 1) := by decide +kernel
theorem dX4_askFor_23 : decode cX4_askFor 23 = .ok (.aload_n 0, 1) := by decide +kernel
theorem dX4_askFor_24 : decode cX4_askFor 24 = .ok (.getfield 52, 3) := by decide +kernel
theorem dX4_askFor_27 : decode cX4_askFor 27 = .ok (.ifCond .ne 6, 3) := by decide +kernel
theorem dX4_askFor_30 : decode cX4_askFor 30 = .ok (.bipush (-2), 2) := by decide +kernel
theorem dX4_askFor_32 : decode cX4_askFor 32 = .ok (.ireturn, 1) := by decide +kernel
theorem dX4_askFor_33 : decode cX4_askFor 33 = .ok (.aload_n 0, 1) := by decide +kernel
theorem dX4_askFor_34 : decode cX4_askFor 34 = .ok (.getfield 21, 3) := by decide +kernel
theorem dX4_askFor_37 : decode cX4_askFor 37 = .ok (.invokevirtual 87, 3) := by decide +kernel
theorem dX4_askFor_40 : decode cX4_askFor 40 = .ok (.bipush 8, 2) := by decide +kernel
theorem dX4_askFor_42 : decode cX4_askFor 42 = .ok (.if_icmp .lt 6, 3) := by decide +kernel
theorem dX4_askFor_45 : decode cX4_askFor 45 = .ok (.bipush (-3), 2) := by decide +kernel
theorem dX4_askFor_47 : decode cX4_askFor 47 = .ok (.ireturn, 1) := by decide +kernel
theorem dX4_askFor_48 : decode cX4_askFor 48 = .ok (.aload_n 0, 1) := by decide +kernel
theorem dX4_askFor_49 : decode cX4_askFor 49 = .ok (.getfield 21, 3) := by decide +kernel
theorem dX4_askFor_52 : decode cX4_askFor 52 = .ok (.iload_n 1, 1) := by decide +kernel
theorem dX4_askFor_53 : decode cX4_askFor 53 = .ok (.iload_n 2, 1) := by decide +kernel
theorem dX4_askFor_54 : decode cX4_askFor 54 = .ok (.iload_n 3, 1) := by decide +kernel
theorem dX4_askFor_55 : decode cX4_askFor 55 = .ok (.iconst 0, 1) := by decide +kernel
theorem dX4_askFor_56 : decode cX4_askFor 56 = .ok (.invokevirtual 91, 3) := by decide +kernel
theorem dX4_askFor_59 : decode cX4_askFor 59 = .ok (.aload_n 0, 1) := by decide +kernel
theorem dX4_askFor_60 : decode cX4_askFor 60 = .ok (.getfield 21, 3) := by decide +kernel
theorem dX4_askFor_63 : decode cX4_askFor 63 = .ok (.invokevirtual 87, 3) := by decide +kernel
theorem dX4_askFor_66 : decode cX4_askFor 66 = .ok (.ireturn, 1) := by decide +kernel
theorem dX4_letTicks_0 : decode cX4_letTicks 0 = .ok (.iload_n 1, 1) := by decide +kernel
theorem dX4_letTicks_1 : decode cX4_letTicks 1 = .ok (.iconst 1, 1) := by decide +kernel
theorem dX4_letTicks_2 : decode cX4_letTicks 2 = .ok (.sipush 200, 3) := by decide +kernel
theorem dX4_letTicks_5 : decode cX4_letTicks 5 = .ok (.invokestatic 83, 3) := by decide +kernel
theorem dX4_letTicks_8 : decode cX4_letTicks 8 = .ok (.ifCond .ne 5, 3) := by decide +kernel
theorem dX4_letTicks_11 : decode cX4_letTicks 11 = .ok (.iconst (-1), 1) := by decide +kernel
theorem dX4_letTicks_12 : decode cX4_letTicks 12 = .ok (.ireturn, 1) := by decide +kernel
theorem dX4_letTicks_13 : decode cX4_letTicks 13 = .ok (.aload_n 0, 1) := by decide +kernel
theorem dX4_letTicks_14 : decode cX4_letTicks 14 = .ok (.getfield 52, 3) := by decide +kernel
theorem dX4_letTicks_17 : decode cX4_letTicks 17 = .ok (.ifCond .ne 6, 3) := by decide +kernel
theorem dX4_letTicks_20 : decode cX4_letTicks 20 = .ok (.bipush (-2), 2) := by decide +kernel
theorem dX4_letTicks_22 : decode cX4_letTicks 22 = .ok (.ireturn, 1) := by decide +kernel
theorem dX4_letTicks_23 : decode cX4_letTicks 23 = .ok (.aload_n 0, 1) := by decide +kernel
theorem dX4_letTicks_24 : decode cX4_letTicks 24 = .ok (.getfield 35, 3) := by decide +kernel
theorem dX4_letTicks_27 : decode cX4_letTicks 27 = .ok (.getfield 95, 3) := by decide +kernel
theorem dX4_letTicks_30 : decode cX4_letTicks 30 = .ok (.iload_n 1, 1) := by decide +kernel
theorem dX4_letTicks_31 : decode cX4_letTicks 31 = .ok (.iadd, 1) := by decide +kernel
theorem dX4_letTicks_32 : decode cX4_letTicks 32 = .ok (.sipush 9000, 3) := by decide +kernel
theorem dX4_letTicks_35 : decode cX4_letTicks 35 = .ok (.if_icmp .le 6, 3) := by decide +kernel
theorem dX4_letTicks_38 : decode cX4_letTicks 38 = .ok (.bipush (-3), 2) := by decide +kernel
theorem dX4_letTicks_40 : decode cX4_letTicks 40 = .ok (.ireturn, 1) := by decide +kernel
theorem dX4_letTicks_41 : decode cX4_letTicks 41 = .ok (.aload_n 0, 1) := by decide +kernel
theorem dX4_letTicks_42 : decode cX4_letTicks 42 = .ok (.getfield 35, 3) := by decide +kernel
theorem dX4_letTicks_45 : decode cX4_letTicks 45 = .ok (.getfield 98, 3) := by decide +kernel
theorem dX4_letTicks_48 : decode cX4_letTicks 48 = .ok (.istore_n 2, 1) := by decide +kernel
theorem dX4_letTicks_49 : decode cX4_letTicks 49 = .ok (.aload_n 0, 1) := by decide +kernel
theorem dX4_letTicks_50 : decode cX4_letTicks 50 = .ok (.iload_n 1, 1) := by decide +kernel
theorem dX4_letTicks_51 : decode cX4_letTicks 51 = .ok (.invokevirtual 101, 3) := by decide +kernel
theorem dX4_letTicks_54 : decode cX4_letTicks 54 = .ok (.aload_n 0, 1) := by decide +kernel
theorem dX4_letTicks_55 : decode cX4_letTicks 55 = .ok (.getfield 35, 3) := by decide +kernel
theorem dX4_letTicks_58 : decode cX4_letTicks 58 = .ok (.getfield 98, 3) := by decide +kernel
theorem dX4_letTicks_61 : decode cX4_letTicks 61 = .ok (.iload_n 2, 1) := by decide +kernel
theorem dX4_letTicks_62 : decode cX4_letTicks 62 = .ok (.isub, 1) := by decide +kernel
theorem dX4_letTicks_63 : decode cX4_letTicks 63 = .ok (.ireturn, 1) := by decide +kernel
theorem dX4_pass_0 : decode cX4_pass 0 = .ok (.iload_n 1, 1) := by decide +kernel
theorem dX4_pass_1 : decode cX4_pass 1 = .ok (.istore_n 2, 1) := by decide +kernel
theorem dX4_pass_2 : decode cX4_pass 2 = .ok (.iload_n 2, 1) := by decide +kernel
theorem dX4_pass_3 : decode cX4_pass 3 = .ok (.ifCond .le 82, 3) := by decide +kernel
