theorem dX0_init_0 : decode cX0_init 0 = .ok (.aload_n 0, 1) := by decide +kernel
theorem dX0_init_1 : decode cX0_init 1 = .ok (.invokespecial 3, 3) := by decide +kernel
theorem dX0_init_4 : decode cX0_init 4 = .ok (.aload_n 0, 1) := by decide +kernel
theorem dX0_init_5 : decode cX0_init 5 = .ok (.iconst 4, 1) := by decide +kernel
theorem dX0_init_6 : decode cX0_init 6 = .ok (.anewarray 9, 3) := by decide +kernel
theorem dX0_init_9 : decode cX0_init 9 = .ok (.putfield 11, 3) := by decide +kernel
theorem dX0_init_12 : decode cX0_init 12 = .ok (.iconst 0, 1) := by decide +kernel
theorem dX0_init_13 : decode cX0_init 13 = .ok (.istore_n 2, 1) := by decide +kernel
theorem dX0_init_14 : decode cX0_init 14 = .ok (.iload_n 2, 1) := by decide +kernel
theorem dX0_init_15 : decode cX0_init 15 = .ok (.aload_n 0, 1) := by decide +kernel
theorem dX0_init_16 : decode cX0_init 16 = .ok (.getfield 11, 3) := by decide +kernel
theorem dX0_init_19 : decode cX0_init 19 = .ok (.arraylength, 1) := by decide +kernel
theorem dX0_init_20 : decode cX0_init 20 = .ok (.if_icmp .ge 23, 3) := by decide +kernel
theorem dX0_init_23 : decode cX0_init 23 = .ok (.aload_n 0, 1) := by decide +kernel
theorem dX0_init_24 : decode cX0_init 24 = .ok (.getfield 11, 3) := by decide +kernel
theorem dX0_init_27 : decode cX0_init 27 = .ok (.iload_n 2, 1) := by decide +kernel
theorem dX0_init_28 : decode cX0_init 28 = .ok (.new 9, 3) := by decide +kernel
theorem dX0_init_31 : decode cX0_init 31 = .ok (.dup, 1) := by decide +kernel
theorem dX0_init_32 : decode cX0_init 32 = .ok (.aload_n 1, 1) := by decide +kernel
theorem dX0_init_33 : decode cX0_init 33 = .ok (.invokespecial 17, 3) := by decide +kernel
theorem dX0_init_36 : decode cX0_init 36 = .ok (.aastore, 1) := by decide +kernel
theorem dX0_init_37 : decode cX0_init 37 = .ok (.iinc 2 1, 3) := by decide +kernel
theorem dX0_init_40 : decode cX0_init 40 = .ok (.goto (-26), 3) := by decide +kernel
theorem dX0_init_43 : decode cX0_init 43 = .ok (.return_, 1) := by decide +kernel
theorem dX0_record_0 : decode cX0_record 0 = .ok (.aload_n 0, 1) := by decide +kernel
theorem dX0_record_1 : decode cX0_record 1 = .ok (.getfield 20, 3) := by decide +kernel
theorem dX0_record_4 : decode cX0_record 4 = .ok (.aload_n 0, 1) := by decide +kernel
theorem dX0_record_5 : decode cX0_record 5 = .ok (.getfield 11, 3) := by decide +kernel
theorem dX0_record_8 : decode cX0_record 8 = .ok (.arraylength, 1) := by decide +kernel
theorem dX0_record_9 : decode cX0_record 9 = .ok (.if_icmp .ge 16, 3) := by decide +kernel
theorem dX0_record_12 : decode cX0_record 12 = .ok (.aload_n 0, 1) := by decide +kernel
theorem dX0_record_13 : decode cX0_record 13 = .ok (.dup, 1) := by decide +kernel
theorem dX0_record_14 : decode cX0_record 14 = .ok (.getfield 20, 3) := by decide +kernel
theorem dX0_record_17 : decode cX0_record 17 = .ok (.iconst 1, 1) := by decide +kernel
theorem dX0_record_18 : decode cX0_record 18 = .ok (.iadd, 1) := by decide +kernel
theorem dX0_record_19 : decode cX0_record 19 = .ok (.putfield 20, 3) := by decide +kernel
theorem dX0_record_22 : decode cX0_record 22 = .ok (.goto 7, 3) := by decide +kernel
theorem dX0_record_25 : decode cX0_record 25 = .ok (.aload_n 0, 1) := by decide +kernel
theorem dX0_record_26 : decode cX0_record 26 = .ok (.invokevirtual 24, 3) := by decide +kernel
theorem dX0_record_29 : decode cX0_record 29 = .ok (.aload_n 0, 1) := by decide +kernel
theorem dX0_record_30 : decode cX0_record 30 = .ok (.getfield 11, 3) := by decide +kernel
theorem dX0_record_33 : decode cX0_record 33 = .ok (.aload_n 0, 1) := by decide +kernel
theorem dX0_record_34 : decode cX0_record 34 = .ok (.getfield 20, 3) := by decide +kernel
theorem dX0_record_37 : decode cX0_record 37 = .ok (.iconst 1, 1) := by decide +kernel
theorem dX0_record_38 : decode cX0_record 38 = .ok (.isub, 1) := by decide +kernel
theorem dX0_record_39 : decode cX0_record 39 = .ok (.aaload, 1) := by decide +kernel
theorem dX0_record_40 : decode cX0_record 40 = .ok (.aload_n 1, 1) := by decide +kernel
theorem dX0_record_41 : decode cX0_record 41 = .ok (.invokevirtual 27, 3) := by decide +kernel
theorem dX0_record_44 : decode cX0_record 44 = .ok (.return_, 1) := by decide +kernel
theorem dX0_restoreLatest_0 : decode cX0_restoreLatest 0 = .ok (.aload_n 0, 1) := by decide +kernel
theorem dX0_restoreLatest_1 : decode cX0_restoreLatest 1 = .ok (.getfield 20, 3) := by decide +kernel
theorem dX0_restoreLatest_4 : decode cX0_restoreLatest 4 = .ok (.ifCond .ne 5, 3) := by decide +kernel
theorem dX0_restoreLatest_7 : decode cX0_restoreLatest 7 = .ok (.iconst 0, 1) := by decide +kernel
theorem dX0_restoreLatest_8 : decode cX0_restoreLatest 8 = .ok (.ireturn, 1) := by decide +kernel
theorem dX0_restoreLatest_9 : decode cX0_restoreLatest 9 = .ok (.aload_n 0, 1) := by decide +kernel
theorem dX0_restoreLatest_10 : decode cX0_restoreLatest 10 = .ok (.dup, 1) := by decide +kernel
theorem dX0_restoreLatest_11 : decode cX0_restoreLatest 11 = .ok (.getfield 20, 3) := by decide +kernel
theorem dX0_restoreLatest_14 : decode cX0_restoreLatest 14 = .ok (.iconst 1, 1) := by decide +kernel
theorem dX0_restoreLatest_15 : decode cX0_restoreLatest 15 = .ok (.isub, 1) := by decide +kernel
theorem dX0_restoreLatest_16 : decode cX0_restoreLatest 16 = .ok (.putfield 20, 3) := by decide +kernel
theorem dX0_restoreLatest_19 : decode cX0_restoreLatest 19 = .ok (.aload_n 1, 1) := by decide +kernel
theorem dX0_restoreLatest_20 : decode cX0_restoreLatest 20 = .ok (.aload_n 0, 1) := by decide +kernel
theorem dX0_restoreLatest_21 : decode cX0_restoreLatest 21 = .ok (.getfield 11, 3) := by decide +kernel
theorem dX0_restoreLatest_24 : decode cX0_restoreLatest 24 = .ok (.aload_n 0, 1) := by decide +kernel
theorem dX0_restoreLatest_25 : decode cX0_restoreLatest 25 = .ok (.getfield 20, 3) := by decide +kernel
theorem dX0_restoreLatest_28 : decode cX0_restoreLatest 28 = .ok (.aaload, 1) := by decide +kernel
theorem dX0_restoreLatest_29 : decode cX0_restoreLatest 29 = .ok (.invokevirtual 27, 3) := by decide +kernel
theorem dX0_restoreLatest_32 : decode cX0_restoreLatest 32 = .ok (.iconst 1, 1) := by decide +kernel
theorem dX0_restoreLatest_33 : decode cX0_restoreLatest 33 = .ok (.ireturn, 1) := by decide +kernel
theorem dX0_moveOldestToEnd_0 : decode cX0_moveOldestToEnd 0 = .ok (.aload_n 0, 1) := by decide +kernel
theorem dX0_moveOldestToEnd_1 : decode cX0_moveOldestToEnd 1 = .ok (.getfield 11, 3) := by decide +kernel
theorem dX0_moveOldestToEnd_4 : decode cX0_moveOldestToEnd 4 = .ok (.iconst 0, 1) := by decide +kernel
theorem dX0_moveOldestToEnd_5 : decode cX0_moveOldestToEnd 5 = .ok (.aaload, 1) := by decide +kernel
theorem dX0_moveOldestToEnd_6 : decode cX0_moveOldestToEnd 6 = .ok (.astore_n 1, 1) := by decide +kernel
theorem dX0_moveOldestToEnd_7 : decode cX0_moveOldestToEnd 7 = .ok (.iconst 1, 1) := by decide +kernel
theorem dX0_moveOldestToEnd_8 : decode cX0_moveOldestToEnd 8 = .ok (.istore_n 2, 1) := by decide +kernel
theorem dX0_moveOldestToEnd_9 : decode cX0_moveOldestToEnd 9 = .ok (.iload_n 2, 1) := by decide +kernel
theorem dX0_moveOldestToEnd_10 : decode cX0_moveOldestToEnd 10 = .ok (.aload_n 0, 1) := by decide +kernel
theorem dX0_moveOldestToEnd_11 : decode cX0_moveOldestToEnd 11 = .ok (.getfield 11, 3) := by decide +kernel
theorem dX0_moveOldestToEnd_14 : decode cX0_moveOldestToEnd 14 = .ok (.arraylength, 1) := by decide +kernel
theorem dX0_moveOldestToEnd_15 : decode cX0_moveOldestToEnd 15 = .ok (.if_icmp .ge 23, 3) := by decide +kernel
theorem dX0_moveOldestToEnd_18 : decode cX0_moveOldestToEnd 18 = .ok (.aload_n 0, 1) := by decide +kernel
theorem dX0_moveOldestToEnd_19 : decode cX0_moveOldestToEnd 19 = .ok (.getfield 11, 3) := by decide +kernel
theorem dX0_moveOldestToEnd_22 : decode cX0_moveOldestToEnd 22 = .ok (.iload_n 2, 1) := by decide +kernel
theorem dX0_moveOldestToEnd_23 : decode cX0_moveOldestToEnd 23 = .ok (.iconst 1, 1) := by decide +kernel
theorem dX0_moveOldestToEnd_24 : decode cX0_moveOldestToEnd 24 = .ok (.isub, 1) := by decide +kernel
theorem dX0_moveOldestToEnd_25 : decode cX0_moveOldestToEnd 25 = .ok (.aload_n 0, 1) := by decide +kernel
theorem dX0_moveOldestToEnd_26 : decode cX0_moveOldestToEnd 26 = .ok (.getfield 11, 3) := by decide +kernel
theorem dX0_moveOldestToEnd_29 : decode cX0_moveOldestToEnd 29 = .ok (.iload_n 2, 1) := by decide +kernel
theorem dX0_moveOldestToEnd_30 : decode cX0_moveOldestToEnd 30 = .ok (.aaload, 1) := by decide +kernel
theorem dX0_moveOldestToEnd_31 : decode cX0_moveOldestToEnd 31 = .ok (.aastore, 1) := by decide +kernel
theorem dX0_moveOldestToEnd_32 : decode cX0_moveOldestToEnd 32 = .ok (.iinc 2 1, 3) := by decide +kernel
theorem dX0_moveOldestToEnd_35 : decode cX0_moveOldestToEnd 35 = .ok (.goto (-26), 3) := by decide +kernel
theorem dX0_moveOldestToEnd_38 : decode cX0_moveOldestToEnd 38 = .ok (.aload_n 0, 1) := by decide +kernel
theorem dX0_moveOldestToEnd_39 : decode cX0_moveOldestToEnd 39 = .ok (.getfield 11, 3) := by decide +kernel
theorem dX0_moveOldestToEnd_42 : decode cX0_moveOldestToEnd 42 = .ok (.aload_n 0, 1) := by decide +kernel
theorem dX0_moveOldestToEnd_43 : decode cX0_moveOldestToEnd 43 = .ok (.getfield 11, 3) := by decide +kernel
theorem dX0_moveOldestToEnd_46 : decode cX0_moveOldestToEnd 46 = .ok (.arraylength, 1) := by decide +kernel
theorem dX0_moveOldestToEnd_47 : decode cX0_moveOldestToEnd 47 = .ok (.iconst 1, 1) := by decide +kernel
theorem dX0_moveOldestToEnd_48 : decode cX0_moveOldestToEnd 48 = .ok (.isub, 1) := by decide +kernel
theorem dX0_moveOldestToEnd_49 : decode cX0_moveOldestToEnd 49 = .ok (.aload_n 1, 1) := by decide +kernel
theorem dX0_moveOldestToEnd_50 : decode cX0_moveOldestToEnd 50 = .ok (.aastore, 1) := by decide +kernel
theorem dX0_moveOldestToEnd_51 : decode cX0_moveOldestToEnd 51 = .ok (.return_, 1) := by decide +kernel
theorem dX1_init_0 : decode cX1_init 0 = .ok (.aload_n 0, 1) := by decide +kernel
theorem dX1_init_1 : decode cX1_init 1 = .ok (.invokespecial 3, 3) := by decide +kernel
theorem dX1_init_4 : decode cX1_init 4 = .ok (.return_, 1) := by decide +kernel
theorem dX1_begin_0 : decode cX1_begin 0 = .ok (.aload_n 0, 1) := by decide +kernel
theorem dX1_begin_1 : decode cX1_begin 1 = .ok (.iload_n 1, 1) := by decide +kernel
theorem dX1_begin_2 : decode cX1_begin 2 = .ok (.putfield 9, 3) := by decide +kernel
theorem dX1_begin_5 : decode cX1_begin 5 = .ok (.aload_n 0, 1) := by decide +kernel
theorem dX1_begin_6 : decode cX1_begin 6 = .ok (.iload_n 2, 1) := by decide +kernel
theorem dX1_begin_7 : decode cX1_begin 7 = .ok (.putfield 15, 3) := by decide +kernel
theorem dX1_begin_10 : decode cX1_begin 10 = .ok (.aload_n 0, 1) := by decide +kernel
theorem dX1_begin_11 : decode cX1_begin 11 = .ok (.iload_n 3, 1) := by decide +kernel
theorem dX1_begin_12 : decode cX1_begin 12 = .ok (.putfield 18, 3) := by decide +kernel
theorem dX1_begin_15 : decode cX1_begin 15 = .ok (.aload_n 0, 1) := by decide +kernel
theorem dX1_begin_16 : decode cX1_begin 16 = .ok (.lconst 1, 1) := by decide +kernel
theorem dX1_begin_17 : decode cX1_begin 17 = .ok (.putfield 21, 3) := by decide +kernel
theorem dX1_begin_20 : decode cX1_begin 20 = .ok (.aload_n 0, 1) := by decide +kernel
theorem dX1_begin_21 : decode cX1_begin 21 = .ok (.lconst 0, 1) := by decide +kernel
theorem dX1_begin_22 : decode cX1_begin 22 = .ok (.putfield 25, 3) := by decide +kernel
theorem dX1_begin_25 : decode cX1_begin 25 = .ok (.return_, 1) := by decide +kernel
theorem dX1_climb_0 : decode cX1_climb 0 = .ok (.aload_n 0, 1) := by decide +kernel
theorem dX1_climb_1 : decode cX1_climb 1 = .ok (.getfield 15, 3) := by decide +kernel
theorem dX1_climb_4 : decode cX1_climb 4 = .ok (.ifCond .le 20, 3) := by decide +kernel
theorem dX1_climb_7 : decode cX1_climb 7 = .ok (.aload_n 0, 1) := by decide +kernel
theorem dX1_climb_8 : decode cX1_climb 8 = .ok (.getfield 21, 3) := by decide +kernel
theorem dX1_climb_11 : decode cX1_climb 11 = .ok (.ldc2_w 28, 3) := by decide +kernel
theorem dX1_climb_14 : decode cX1_climb 14 = .ok (.aload_n 0, 1) := by decide +kernel
theorem dX1_climb_15 : decode cX1_climb 15 = .ok (.getfield 15, 3) := by decide +kernel
theorem dX1_climb_18 : decode cX1_climb 18 = .ok (.i2l, 1) := by decide +kernel
theorem dX1_climb_19 : decode cX1_climb 19 = .ok (.ldiv, 1) := by decide +kernel
theorem dX1_climb_20 : decode cX1_climb 20 = .ok (.lcmp, 1) := by decide +kernel
theorem dX1_climb_21 : decode cX1_climb 21 = .ok (.ifCond .le 5, 3) := by decide +kernel
theorem dX1_climb_24 : decode cX1_climb 24 = .ok (.iconst 0, 1) := by decide +kernel
theorem dX1_climb_25 : decode cX1_climb 25 = .ok (.ireturn, 1) := by decide +kernel
theorem dX1_climb_26 : decode cX1_climb 26 = .ok (.aload_n 0, 1) := by decide +kernel
theorem dX1_climb_27 : decode cX1_climb 27 = .ok (.getfield 21, 3) := by decide +kernel
theorem dX1_climb_30 : decode cX1_climb 30 = .ok (.aload_n 0, 1) := by decide +kernel
theorem dX1_climb_31 : decode cX1_climb 31 = .ok (.getfield 15, 3) := by decide +kernel
theorem dX1_climb_34 : decode cX1_climb 34 = .ok (.i2l, 1) := by decide +kernel
theorem dX1_climb_35 : decode cX1_climb 35 = .ok (.lmul, 1) := by decide +kernel
theorem dX1_climb_36 : decode cX1_climb 36 = .ok (.aload_n 0, 1) := by decide +kernel
theorem dX1_climb_37 : decode cX1_climb 37 = .ok (.getfield 9, 3) := by decide +kernel
theorem dX1_climb_40 : decode cX1_climb 40 = .ok (.i2l, 1) := by decide +kernel
theorem dX1_climb_41 : decode cX1_climb 41 = .ok (.aload_n 0, 1) := by decide +kernel
theorem dX1_climb_42 : decode cX1_climb 42 = .ok (.getfield 25, 3) := by decide +kernel
theorem dX1_climb_45 : decode cX1_climb 45 = .ok (.lmul, 1) := by decide +kernel
theorem dX1_climb_46 : decode cX1_climb 46 = .ok (.aload_n 0, 1) := by decide +kernel
theorem dX1_climb_47 : decode cX1_climb 47 = .ok (.getfield 18, 3) := by decide +kernel
theorem dX1_climb_50 : decode cX1_climb 50 = .ok (.i2l, 1) := by decide +kernel
theorem dX1_climb_51 : decode cX1_climb 51 = .ok (.lmul, 1) := by decide +kernel
theorem dX1_climb_52 : decode cX1_climb 52 = .ok (.ladd, 1) := by decide +kernel
theorem dX1_climb_53 : decode cX1_climb 53 = .ok (.lstore_n 1, 1) := by decide +kernel
theorem dX1_climb_54 : decode cX1_climb 54 = .ok (.lload_n 1, 1) := by decide +kernel
theorem dX1_climb_55 : decode cX1_climb 55 = .ok (.ldc2_w 28, 3) := by decide +kernel
theorem dX1_climb_58 : decode cX1_climb 58 = .ok (.lcmp, 1) := by decide +kernel
theorem dX1_climb_59 : decode cX1_climb 59 = .ok (.ifCond .le 5, 3) := by decide +kernel
theorem dX1_climb_62 : decode cX1_climb 62 = .ok (.iconst 0, 1) := by decide +kernel
theorem dX1_climb_63 : decode cX1_climb 63 = .ok (.ireturn, 1) := by decide +kernel
theorem dX1_climb_64 : decode cX1_climb 64 = .ok (.aload_n 0, 1) := by decide +kernel
theorem dX1_climb_65 : decode cX1_climb 65 = .ok (.aload_n 0, 1) := by decide +kernel
theorem dX1_climb_66 : decode cX1_climb 66 = .ok (.getfield 21, 3) := by decide +kernel
theorem dX1_climb_69 : decode cX1_climb 69 = .ok (.aload_n 0, 1) := by decide +kernel
theorem dX1_climb_70 : decode cX1_climb 70 = .ok (.getfield 18, 3) := by decide +kernel
theorem dX1_climb_73 : decode cX1_climb 73 = .ok (.i2l, 1) := by decide +kernel
theorem dX1_climb_74 : decode cX1_climb 74 = .ok (.lmul, 1) := by decide +kernel
theorem dX1_climb_75 : decode cX1_climb 75 = .ok (.aload_n 0, 1) := by decide +kernel
theorem dX1_climb_76 : decode cX1_climb 76 = .ok (.getfield 25, 3) := by decide +kernel
theorem dX1_climb_79 : decode cX1_climb 79 = .ok (.aload_n 0, 1) := by decide +kernel
theorem dX1_climb_80 : decode cX1_climb 80 = .ok (.getfield 15, 3) := by decide +kernel
theorem dX1_climb_83 : decode cX1_climb 83 = .ok (.i2l, 1) := by decide +kernel
theorem dX1_climb_84 : decode cX1_climb 84 = .ok (.lmul, 1) := by decide +kernel
theorem dX1_climb_85 : decode cX1_climb 85 = .ok (.ladd, 1) := by decide +kernel
theorem dX1_climb_86 : decode cX1_climb 86 = .ok (.putfield 25, 3) := by decide +kernel
theorem dX1_climb_89 : decode cX1_climb 89 = .ok (.aload_n 0, 1) := by decide +kernel
theorem dX1_climb_90 : decode cX1_climb 90 = .ok (.lload_n 1, 1) := by decide +kernel
theorem dX1_climb_91 : decode cX1_climb 91 = .ok (.putfield 21, 3) := by decide +kernel
theorem dX1_climb_94 : decode cX1_climb 94 = .ok (.iconst 1, 1) := by decide +kernel
theorem dX1_climb_95 : decode cX1_climb 95 = .ok (.ireturn, 1) := by decide +kernel
theorem dX1_isAheadOf_0 : decode cX1_isAheadOf 0 = .ok (.aload_n 0, 1) := by decide +kernel
theorem dX1_isAheadOf_1 : decode cX1_isAheadOf 1 = .ok (.getfield 21, 3) := by decide +kernel
theorem dX1_isAheadOf_4 : decode cX1_isAheadOf 4 = .ok (.aload_n 1, 1) := by decide +kernel
theorem dX1_isAheadOf_5 : decode cX1_isAheadOf 5 = .ok (.getfield 21, 3) := by decide +kernel
theorem dX1_isAheadOf_8 : decode cX1_isAheadOf 8 = .ok (.lcmp, 1) := by decide +kernel
theorem dX1_isAheadOf_9 : decode cX1_isAheadOf 9 = .ok (.ifCond .eq 23, 3) := by decide +kernel
theorem dX1_isAheadOf_12 : decode cX1_isAheadOf 12 = .ok (.aload_n 0, 1) := by decide +kernel
theorem dX1_isAheadOf_13 : decode cX1_isAheadOf 13 = .ok (.getfield 21, 3) := by decide +kernel
theorem dX1_isAheadOf_16 : decode cX1_isAheadOf 16 = .ok (.aload_n 1, 1) := by decide +kernel
theorem dX1_isAheadOf_17 : decode cX1_isAheadOf 17 = .ok (.getfield 21, 3) := by decide +kernel
theorem dX1_isAheadOf_20 : decode cX1_isAheadOf 20 = .ok (.lcmp, 1) := by decide +kernel
theorem dX1_isAheadOf_21 : decode cX1_isAheadOf 21 = .ok (.ifCond .ge 7, 3) := by decide +kernel
theorem dX1_isAheadOf_24 : decode cX1_isAheadOf 24 = .ok (.iconst 1, 1) := by decide +kernel
theorem dX1_isAheadOf_25 : decode cX1_isAheadOf 25 = .ok (.goto 23, 3) := by decide +kernel
theorem dX1_isAheadOf_28 : decode cX1_isAheadOf 28 = .ok (.iconst 0, 1) := by decide +kernel
theorem dX1_isAheadOf_29 : decode cX1_isAheadOf 29 = .ok (.goto 19, 3) := by decide +kernel
theorem dX1_isAheadOf_32 : decode cX1_isAheadOf 32 = .ok (.aload_n 0, 1) := by decide +kernel
theorem dX1_isAheadOf_33 : decode cX1_isAheadOf 33 = .ok (.getfield 9, 3) := by decide +kernel
theorem dX1_isAheadOf_36 : decode cX1_isAheadOf 36 = .ok (.aload_n 1, 1) := by decide +kernel
theorem dX1_isAheadOf_37 : decode cX1_isAheadOf 37 = .ok (.getfield 9, 3) := by decide +kernel
theorem dX1_isAheadOf_40 : decode cX1_isAheadOf 40 = .ok (.if_icmp .ge 7, 3) := by decide +kernel
theorem dX1_isAheadOf_43 : decode cX1_isAheadOf 43 = .ok (.iconst 1, 1) := by decide +kernel
theorem dX1_isAheadOf_44 : decode cX1_isAheadOf 44 = .ok (.goto 4, 3) := by decide +kernel
theorem dX1_isAheadOf_47 : decode cX1_isAheadOf 47 = .ok (.iconst 0, 1) := by decide +kernel
theorem dX1_isAheadOf_48 : decode cX1_isAheadOf 48 = .ok (.ireturn, 1) := by decide +kernel
theorem dX2_init_0 : decode cX2_init 0 = .ok (.aload_n 0, 1) := by decide +kernel
theorem dX2_init_1 : decode cX2_init 1 = .ok (.invokespecial 3, 3) := by decide +kernel
theorem dX2_init_4 : decode cX2_init 4 = .ok (.aload_n 0, 1) := by decide +kernel
theorem dX2_init_5 : decode cX2_init 5 = .ok (.new 9, 3) := by decide +kernel
theorem dX2_init_8 : decode cX2_init 8 = .ok (.dup, 1) := by decide +kernel
theorem dX2_init_9 : decode cX2_init 9 = .ok (.invokespecial 11, 3) := by decide +kernel
theorem dX2_init_12 : decode cX2_init 12 = .ok (.putfield 12, 3) := by decide +kernel
theorem dX2_init_15 : decode cX2_init 15 = .ok (.aload_n 0, 1) := by decide +kernel
theorem dX2_init_16 : decode cX2_init 16 = .ok (.sipush 312, 3) := by decide +kernel
theorem dX2_init_19 : decode cX2_init 19 = .ok (.newarray .long, 2) := by decide +kernel
theorem dX2_init_21 : decode cX2_init 21 = .ok (.putfield 18, 3) := by decide +kernel
theorem dX2_init_24 : decode cX2_init 24 = .ok (.aload_n 0, 1) := by decide +kernel
theorem dX2_init_25 : decode cX2_init 25 = .ok (.aload_n 1, 1) := by decide +kernel
theorem dX2_init_26 : decode cX2_init 26 = .ok (.putfield 22, 3) := by decide +kernel
theorem dX2_init_29 : decode cX2_init 29 = .ok (.return_, 1) := by decide +kernel
theorem dX2_fill_0 : decode cX2_fill 0 = .ok (.aload_n 0, 1) := by decide +kernel
theorem dX2_fill_1 : decode cX2_fill 1 = .ok (.iconst 0, 1) := by decide +kernel
theorem dX2_fill_2 : decode cX2_fill 2 = .ok (.putfield 26, 3) := by decide +kernel
theorem dX2_fill_5 : decode cX2_fill 5 = .ok (.iconst 2, 1) := by decide +kernel
theorem dX2_fill_6 : decode cX2_fill 6 = .ok (.istore_n 2, 1) := by decide +kernel
theorem dX2_fill_7 : decode cX2_fill 7 = .ok (.iload_n 2, 1) := by decide +kernel
theorem dX2_fill_8 : decode cX2_fill 8 = .ok (.bipush 60, 2) := by decide +kernel
theorem dX2_fill_10 : decode cX2_fill 10 = .ok (.if_icmp .gt 22, 3) := by decide +kernel
theorem dX2_fill_13 : decode cX2_fill 13 = .ok (.aload_n 1, 1) := by decide +kernel
theorem dX2_fill_14 : decode cX2_fill 14 = .ok (.iload_n 2, 1) := by decide +kernel
theorem dX2_fill_15 : decode cX2_fill 15 = .ok (.invokevirtual 30, 3) := by decide +kernel
theorem dX2_fill_18 : decode cX2_fill 18 = .ok (.ifCond .eq 8, 3) := by decide +kernel
theorem dX2_fill_21 : decode cX2_fill 21 = .ok (.aload_n 0, 1) := by decide +kernel
theorem dX2_fill_22 : decode cX2_fill 22 = .ok (.iload_n 2, 1) := by decide +kernel
theorem dX2_fill_23 : decode cX2_fill 23 = .ok (.invokevirtual 36, 3) := by decide +kernel
theorem dX2_fill_26 : decode cX2_fill 26 = .ok (.iinc 2 1, 3) := by decide +kernel
theorem dX2_fill_29 : decode cX2_fill 29 = .ok (.goto (-22), 3) := by decide +kernel
theorem dX2_fill_32 : decode cX2_fill 32 = .ok (.return_, 1) := by decide +kernel
theorem dX2_x_0 : decode cX2_x 0 = .ok (.iload_n 1, 1) := by decide +kernel
theorem dX2_x_1 : decode cX2_x 1 = .ok (.ifCond .lt 20, 3) := by decide +kernel
theorem dX2_x_4 : decode cX2_x 4 = .ok (.iload_n 1, 1) := by decide +kernel
theorem dX2_x_5 : decode cX2_x 5 = .ok (.aload_n 0, 1) := by decide +kernel
theorem dX2_x_6 : decode cX2_x 6 = .ok (.getfield 26, 3) := by decide +kernel
theorem dX2_x_9 : decode cX2_x 9 = .ok (.if_icmp .ge 12, 3) := by decide +kernel
theorem dX2_x_12 : decode cX2_x 12 = .ok (.aload_n 0, 1) := by decide +kernel
theorem dX2_x_13 : decode cX2_x 13 = .ok (.getfield 18, 3) := by decide +kernel
theorem dX2_x_16 : decode cX2_x 16 = .ok (.iload_n 1, 1) := by decide +kernel
theorem dX2_x_17 : decode cX2_x 17 = .ok (.laload, 1) := by decide +kernel
theorem dX2_x_18 : decode cX2_x 18 = .ok (.goto 4, 3) := by decide +kernel
theorem dX2_x_21 : decode cX2_x 21 = .ok (.lconst 0, 1) := by decide +kernel
theorem dX2_x_22 : decode cX2_x 22 = .ok (.lreturn, 1) := by decide +kernel
theorem dX2_addPowers_0 : decode cX2_addPowers 0 = .ok (.aload_n 0, 1) := by decide +kernel
theorem dX2_addPowers_1 : decode cX2_addPowers 1 = .ok (.getfield 22, 3) := by decide +kernel
theorem dX2_addPowers_4 : decode cX2_addPowers 4 = .ok (.aload_n 0, 1) := by decide +kernel
theorem dX2_addPowers_5 : decode cX2_addPowers 5 = .ok (.getfield 12, 3) := by decide +kernel
theorem dX2_addPowers_8 : decode cX2_addPowers 8 = .ok (.iload_n 1, 1) := by decide +kernel
theorem dX2_addPowers_9 : decode cX2_addPowers 9 = .ok (.invokevirtual 40, 3) := by decide +kernel
theorem dX2_addPowers_12 : decode cX2_addPowers 12 = .ok (.iconst 1, 1) := by decide +kernel
theorem dX2_addPowers_13 : decode cX2_addPowers 13 = .ok (.istore_n 2, 1) := by decide +kernel
theorem dX2_addPowers_14 : decode cX2_addPowers 14 = .ok (.iload_n 2, 1) := by decide +kernel
theorem dX2_addPowers_15 : decode cX2_addPowers 15 = .ok (.ldc 46, 2) := by decide +kernel
theorem dX2_addPowers_17 : decode cX2_addPowers 17 = .ok (.if_icmp .gt 30, 3) := by decide +kernel
theorem dX2_addPowers_20 : decode cX2_addPowers 20 = .ok (.aload_n 0, 1) := by decide +kernel
theorem dX2_addPowers_21 : decode cX2_addPowers 21 = .ok (.getfield 12, 3) := by decide +kernel
theorem dX2_addPowers_24 : decode cX2_addPowers 24 = .ok (.invokevirtual 47, 3) := by decide +kernel
theorem dX2_addPowers_27 : decode cX2_addPowers 27 = .ok (.ifCond .eq 20, 3) := by decide +kernel
theorem dX2_addPowers_30 : decode cX2_addPowers 30 = .ok (.aload_n 0, 1) := by decide +kernel
theorem dX2_addPowers_31 : decode cX2_addPowers 31 = .ok (.aload_n 0, 1) := by decide +kernel
theorem dX2_addPowers_32 : decode cX2_addPowers 32 = .ok (.getfield 12, 3) := by decide +kernel
theorem dX2_addPowers_35 : decode cX2_addPowers 35 = .ok (.getfield 51, 3) := by decide +kernel
theorem dX2_addPowers_38 : decode cX2_addPowers 38 = .ok (.invokevirtual 55, 3) := by decide +kernel
theorem dX2_addPowers_41 : decode cX2_addPowers 41 = .ok (.iinc 2 1, 3) := by decide +kernel
theorem dX2_addPowers_44 : decode cX2_addPowers 44 = .ok (.goto (-30), 3) := by decide +kernel
theorem dX2_addPowers_47 : decode cX2_addPowers 47 = .ok (.return_, 1) := by decide +kernel
theorem dX2_add_0 : decode cX2_add 0 = .ok (.aload_n 0, 1) := by decide +kernel
theorem dX2_add_1 : decode cX2_add 1 = .ok (.getfield 26, 3) := by decide +kernel
theorem dX2_add_4 : decode cX2_add 4 = .ok (.aload_n 0, 1) := by decide +kernel
theorem dX2_add_5 : decode cX2_add 5 = .ok (.getfield 18, 3) := by decide +kernel
theorem dX2_add_8 : decode cX2_add 8 = .ok (.arraylength, 1) := by decide +kernel
theorem dX2_add_9 : decode cX2_add 9 = .ok (.if_icmp .lt 4, 3) := by decide +kernel
theorem dX2_add_12 : decode cX2_add 12 = .ok (.return_, 1) := by decide +kernel
theorem dX2_add_13 : decode cX2_add 13 = .ok (.aload_n 0, 1) := by decide +kernel
theorem dX2_add_14 : decode cX2_add 14 = .ok (.getfield 26, 3) := by decide +kernel
theorem dX2_add_17 : decode cX2_add 17 = .ok (.istore_n 3, 1) := by decide +kernel
theorem dX2_add_18 : decode cX2_add 18 = .ok (.iload_n 3, 1) := by decide +kernel
theorem dX2_add_19 : decode cX2_add 19 = .ok (.ifCond .le 36, 3) := by decide +kernel
theorem dX2_add_22 : decode cX2_add 22 = .ok (.aload_n 0, 1) := by decide +kernel
theorem dX2_add_23 : decode cX2_add 23 = .ok (.getfield 18, 3) := by decide +kernel
theorem dX2_add_26 : decode cX2_add 26 = .ok (.iload_n 3, 1) := by decide +kernel
theorem dX2_add_27 : decode cX2_add 27 = .ok (.iconst 1, 1) := by decide +kernel
theorem dX2_add_28 : decode cX2_add 28 = .ok (.isub, 1) := by decide +kernel
theorem dX2_add_29 : decode cX2_add 29 = .ok (.laload, 1) := by decide +kernel
theorem dX2_add_30 : decode cX2_add 30 = .ok (.lload_n 1, 1) := by decide +kernel
theorem dX2_add_31 : decode cX2_add 31 = .ok (.lcmp, 1) := by decide +kernel
theorem dX2_add_32 : decode cX2_add 32 = .ok (.ifCond .le 23, 3) := by decide +kernel
theorem dX2_add_35 : decode cX2_add 35 = .ok (.aload_n 0, 1) := by decide +kernel
theorem dX2_add_36 : decode cX2_add 36 = .ok (.getfield 18, 3) := by decide +kernel
theorem dX2_add_39 : decode cX2_add 39 = .ok (.iload_n 3, 1) := by decide +kernel
theorem dX2_add_40 : decode cX2_add 40 = .ok (.aload_n 0, 1) := by decide +kernel
theorem dX2_add_41 : decode cX2_add 41 = .ok (.getfield 18, 3) := by decide +kernel
theorem dX2_add_44 : decode cX2_add 44 = .ok (.iload_n 3, 1) := by decide +kernel
theorem dX2_add_45 : decode cX2_add 45 = .ok (.iconst 1, 1) := by decide +kernel
theorem dX2_add_46 : decode cX2_add 46 = .ok (.isub, 1) := by decide +kernel
theorem dX2_add_47 : decode cX2_add 47 = .ok (.laload, 1) := by decide +kernel
theorem dX2_add_48 : decode cX2_add 48 = .ok (.lastore, 1) := by decide +kernel
theorem dX2_add_49 : decode cX2_add 49 = .ok (.iinc 3 (-1), 3) := by decide +kernel
theorem dX2_add_52 : decode cX2_add 52 = .ok (.goto (-34), 3) := by decide +kernel
theorem dX2_add_55 : decode cX2_add 55 = .ok (.aload_n 0, 1) := by decide +kernel
theorem dX2_add_56 : decode cX2_add 56 = .ok (.getfield 18, 3) := by decide +kernel
theorem dX2_add_59 : decode cX2_add 59 = .ok (.iload_n 3, 1) := by decide +kernel
theorem dX2_add_60 : decode cX2_add 60 = .ok (.lload_n 1, 1) := by decide +kernel
theorem dX2_add_61 : decode cX2_add 61 = .ok (.lastore, 1) := by decide +kernel
theorem dX2_add_62 : decode cX2_add 62 = .ok (.aload_n 0, 1) := by decide +kernel
theorem dX2_add_63 : decode cX2_add 63 = .ok (.dup, 1) := by decide +kernel
theorem dX2_add_64 : decode cX2_add 64 = .ok (.getfield 26, 3) := by decide +kernel
theorem dX2_add_67 : decode cX2_add 67 = .ok (.iconst 1, 1) := by decide +kernel
theorem dX2_add_68 : decode cX2_add 68 = .ok (.iadd, 1) := by decide +kernel
theorem dX2_add_69 : decode cX2_add 69 = .ok (.putfield 26, 3) := by decide +kernel
theorem dX2_add_72 : decode cX2_add 72 = .ok (.return_, 1) := by decide +kernel
theorem dX3_init_0 : decode cX3_init 0 = .ok (.aload_n 0, 1) := by decide +kernel
theorem dX3_init_1 : decode cX3_init 1 = .ok (.invokespecial 3, 3) := by decide +kernel
theorem dX3_init_4 : decode cX3_init 4 = .ok (.aload_n 0, 1) := by decide +kernel
theorem dX3_init_5 : decode cX3_init 5 = .ok (.bipush 8, 2) := by decide +kernel
theorem dX3_init_7 : decode cX3_init 7 = .ok (.anewarray 9, 3) := by decide +kernel
theorem dX3_init_10 : decode cX3_init 10 = .ok (.putfield 11, 3) := by decide +kernel
theorem dX3_init_13 : decode cX3_init 13 = .ok (.aload_n 0, 1) := by decide +kernel
theorem dX3_init_14 : decode cX3_init 14 = .ok (.aload_n 1, 1) := by decide +kernel
theorem dX3_init_15 : decode cX3_init 15 = .ok (.putfield 17, 3) := by decide +kernel
theorem dX3_init_18 : decode cX3_init 18 = .ok (.iconst 0, 1) := by decide +kernel
theorem dX3_init_19 : decode cX3_init 19 = .ok (.istore_n 2, 1) := by decide +kernel
theorem dX3_init_20 : decode cX3_init 20 = .ok (.iload_n 2, 1) := by decide +kernel
theorem dX3_init_21 : decode cX3_init 21 = .ok (.aload_n 0, 1) := by decide +kernel
theorem dX3_init_22 : decode cX3_init 22 = .ok (.getfield 11, 3) := by decide +kernel
theorem dX3_init_25 : decode cX3_init 25 = .ok (.arraylength, 1) := by decide +kernel
theorem dX3_init_26 : decode cX3_init 26 = .ok (.if_icmp .ge 22, 3) := by decide +kernel
theorem dX3_init_29 : decode cX3_init 29 = .ok (.aload_n 0, 1) := by decide +kernel
theorem dX3_init_30 : decode cX3_init 30 = .ok (.getfield 11, 3) := by decide +kernel
theorem dX3_init_33 : decode cX3_init 33 = .ok (.iload_n 2, 1) := by decide +kernel
theorem dX3_init_34 : decode cX3_init 34 = .ok (.new 9, 3) := by decide +kernel
theorem dX3_init_37 : decode cX3_init 37 = .ok (.dup, 1) := by decide +kernel
theorem dX3_init_38 : decode cX3_init 38 = .ok (.invokespecial 21, 3) := by decide +kernel
theorem dX3_init_41 : decode cX3_init 41 = .ok (.aastore, 1) := by decide +kernel
theorem dX3_init_42 : decode cX3_init 42 = .ok (.iinc 2 1, 3) := by decide +kernel
theorem dX3_init_45 : decode cX3_init 45 = .ok (.goto (-25), 3) := by decide +kernel
theorem dX3_init_48 : decode cX3_init 48 = .ok (.return_, 1) := by decide +kernel
theorem dX3_fill_0 : decode cX3_fill 0 = .ok (.aload_n 0, 1) := by decide +kernel
theorem dX3_fill_1 : decode cX3_fill 1 = .ok (.iconst 0, 1) := by decide +kernel
theorem dX3_fill_2 : decode cX3_fill 2 = .ok (.putfield 22, 3) := by decide +kernel
theorem dX3_fill_5 : decode cX3_fill 5 = .ok (.iconst 2, 1) := by decide +kernel
theorem dX3_fill_6 : decode cX3_fill 6 = .ok (.istore_n 2, 1) := by decide +kernel
theorem dX3_fill_7 : decode cX3_fill 7 = .ok (.iload_n 2, 1) := by decide +kernel
theorem dX3_fill_8 : decode cX3_fill 8 = .ok (.bipush 60, 2) := by decide +kernel
theorem dX3_fill_10 : decode cX3_fill 10 = .ok (.if_icmp .gt 71, 3) := by decide +kernel
theorem dX3_fill_13 : decode cX3_fill 13 = .ok (.aload_n 1, 1) := by decide +kernel
theorem dX3_fill_14 : decode cX3_fill 14 = .ok (.iload_n 2, 1) := by decide +kernel
theorem dX3_fill_15 : decode cX3_fill 15 = .ok (.invokevirtual 26, 3) := by decide +kernel
theorem dX3_fill_18 : decode cX3_fill 18 = .ok (.ifCond .eq 57, 3) := by decide +kernel
theorem dX3_fill_21 : decode cX3_fill 21 = .ok (.aload_n 0, 1) := by decide +kernel
theorem dX3_fill_22 : decode cX3_fill 22 = .ok (.getfield 22, 3) := by decide +kernel
theorem dX3_fill_25 : decode cX3_fill 25 = .ok (.aload_n 0, 1) := by decide +kernel
theorem dX3_fill_26 : decode cX3_fill 26 = .ok (.getfield 11, 3) := by decide +kernel
theorem dX3_fill_29 : decode cX3_fill 29 = .ok (.arraylength, 1) := by decide +kernel
theorem dX3_fill_30 : decode cX3_fill 30 = .ok (.if_icmp .ge 45, 3) := by decide +kernel
theorem dX3_fill_33 : decode cX3_fill 33 = .ok (.aload_n 0, 1) := by decide +kernel
theorem dX3_fill_34 : decode cX3_fill 34 = .ok (.getfield 17, 3) := by decide +kernel
theorem dX3_fill_37 : decode cX3_fill 37 = .ok (.aload_n 0, 1) := by decide +kernel
theorem dX3_fill_38 : decode cX3_fill 38 = .ok (.getfield 11, 3) := by decide +kernel
theorem dX3_fill_41 : decode cX3_fill 41 = .ok (.aload_n 0, 1) := by decide +kernel
theorem dX3_fill_42 : decode cX3_fill 42 = .ok (.getfield 22, 3) := by decide +kernel
theorem dX3_fill_45 : decode cX3_fill 45 = .ok (.aaload, 1) := by decide +kernel
theorem dX3_fill_46 : decode cX3_fill 46 = .ok (.iload_n 2, 1) := by decide +kernel
theorem dX3_fill_47 : decode cX3_fill 47 = .ok (.invokevirtual 32, 3) := by decide +kernel
theorem dX3_fill_50 : decode cX3_fill 50 = .ok (.aload_n 0, 1) := by decide +kernel
theorem dX3_fill_51 : decode cX3_fill 51 = .ok (.getfield 11, 3) := by decide +kernel
theorem dX3_fill_54 : decode cX3_fill 54 = .ok (.aload_n 0, 1) := by decide +kernel
theorem dX3_fill_55 : decode cX3_fill 55 = .ok (.getfield 22, 3) := by decide +kernel
theorem dX3_fill_58 : decode cX3_fill 58 = .ok (.aaload, 1) := by decide +kernel
theorem dX3_fill_59 : decode cX3_fill 59 = .ok (.invokevirtual 38, 3) := by decide +kernel
theorem dX3_fill_62 : decode cX3_fill 62 = .ok (.ifCond .eq 13, 3) := by decide +kernel
theorem dX3_fill_65 : decode cX3_fill 65 = .ok (.aload_n 0, 1) := by decide +kernel
theorem dX3_fill_66 : decode cX3_fill 66 = .ok (.dup, 1) := by decide +kernel
theorem dX3_fill_67 : decode cX3_fill 67 = .ok (.getfield 22, 3) := by decide +kernel
theorem dX3_fill_70 : decode cX3_fill 70 = .ok (.iconst 1, 1) := by decide +kernel
theorem dX3_fill_71 : decode cX3_fill 71 = .ok (.iadd, 1) := by decide +kernel
theorem dX3_fill_72 : decode cX3_fill 72 = .ok (.putfield 22, 3) := by decide +kernel
theorem dX3_fill_75 : decode cX3_fill 75 = .ok (.iinc 2 1, 3) := by decide +kernel
theorem dX3_fill_78 : decode cX3_fill 78 = .ok (.goto (-71), 3) := by decide +kernel
theorem dX3_fill_81 : decode cX3_fill 81 = .ok (.return_, 1) := by decide +kernel
theorem dX3_pass_0 : decode cX3_pass 0 = .ok (.iconst 0, 1) := by decide +kernel
theorem dX3_pass_1 : decode cX3_pass 1 = .ok (.istore_n 2, 1) := by decide +kernel
theorem dX3_pass_2 : decode cX3_pass 2 = .ok (.iload_n 2, 1) := by decide +kernel
theorem dX3_pass_3 : decode cX3_pass 3 = .ok (.iload_n 1, 1) := by decide +kernel
theorem dX3_pass_4 : decode cX3_pass 4 = .ok (.if_icmp .ge 26, 3) := by decide +kernel
theorem dX3_pass_7 : decode cX3_pass 7 = .ok (.iload_n 2, 1) := by decide +kernel
theorem dX3_pass_8 : decode cX3_pass 8 = .ok (.ldc 42, 2) := by decide +kernel
theorem dX3_pass_10 : decode cX3_pass 10 = .ok (.if_icmp .ge 20, 3) := by decide +kernel
theorem dX3_pass_13 : decode cX3_pass 13 = .ok (.aload_n 0, 1) := by decide +kernel
theorem dX3_pass_14 : decode cX3_pass 14 = .ok (.getfield 22, 3) := by decide +kernel
theorem dX3_pass_17 : decode cX3_pass 17 = .ok (.ifCond .le 13, 3) := by decide +kernel
theorem dX3_pass_20 : decode cX3_pass 20 = .ok (.aload_n 0, 1) := by decide +kernel
theorem dX3_pass_21 : decode cX3_pass 21 = .ok (.invokevirtual 43, 3) := by decide +kernel
theorem dX3_pass_24 : decode cX3_pass 24 = .ok (.iinc 2 1, 3) := by decide +kernel
theorem dX3_pass_27 : decode cX3_pass 27 = .ok (.goto (-25), 3) := by decide +kernel
theorem dX3_pass_30 : decode cX3_pass 30 = .ok (.return_, 1) := by decide +kernel
theorem dX3_first_0 : decode cX3_first 0 = .ok (.aload_n 0, 1) := by decide +kernel
theorem dX3_first_1 : decode cX3_first 1 = .ok (.getfield 22, 3) := by decide +kernel
theorem dX3_first_4 : decode cX3_first 4 = .ok (.ifCond .le 15, 3) := by decide +kernel
theorem dX3_first_7 : decode cX3_first 7 = .ok (.aload_n 0, 1) := by decide +kernel
theorem dX3_first_8 : decode cX3_first 8 = .ok (.getfield 11, 3) := by decide +kernel
theorem dX3_first_11 : decode cX3_first 11 = .ok (.aload_n 0, 1) := by decide +kernel
theorem dX3_first_12 : decode cX3_first 12 = .ok (.invokevirtual 46, 3) := by decide +kernel
theorem dX3_first_15 : decode cX3_first 15 = .ok (.aaload, 1) := by decide +kernel
theorem dX3_first_16 : decode cX3_first 16 = .ok (.goto 4, 3) := by decide +kernel
theorem dX3_first_19 : decode cX3_first 19 = .ok (.aconst_null, 1) := by decide +kernel
theorem dX3_first_20 : decode cX3_first 20 = .ok (.areturn, 1) := by decide +kernel
theorem dX3_passFirst_0 : decode cX3_passFirst 0 = .ok (.aload_n 0, 1) := by decide +kernel
theorem dX3_passFirst_1 : decode cX3_passFirst 1 = .ok (.invokevirtual 46, 3) := by decide +kernel
theorem dX3_passFirst_4 : decode cX3_passFirst 4 = .ok (.istore_n 1, 1) := by decide +kernel
theorem dX3_passFirst_5 : decode cX3_passFirst 5 = .ok (.aload_n 0, 1) := by decide +kernel
theorem dX3_passFirst_6 : decode cX3_passFirst 6 = .ok (.getfield 11, 3) := by decide +kernel
theorem dX3_passFirst_9 : decode cX3_passFirst 9 = .ok (.iload_n 1, 1) := by decide +kernel
theorem dX3_passFirst_10 : decode cX3_passFirst 10 = .ok (.aaload, 1) := by decide +kernel
theorem dX3_passFirst_11 : decode cX3_passFirst 11 = .ok (.astore_n 2, 1) := by decide +kernel
theorem dX3_passFirst_12 : decode cX3_passFirst 12 = .ok (.aload_n 2, 1) := by decide +kernel
theorem dX3_passFirst_13 : decode cX3_passFirst 13 = .ok (.invokevirtual 38, 3) := by decide +kernel
theorem dX3_passFirst_16 : decode cX3_passFirst 16 = .ok (.ifCond .ne 38, 3) := by decide +kernel
theorem dX3_passFirst_19 : decode cX3_passFirst 19 = .ok (.aload_n 0, 1) := by decide +kernel
theorem dX3_passFirst_20 : decode cX3_passFirst 20 = .ok (.dup, 1) := by decide +kernel
theorem dX3_passFirst_21 : decode cX3_passFirst 21 = .ok (.getfield 22, 3) := by decide +kernel
theorem dX3_passFirst_24 : decode cX3_passFirst 24 = .ok (.iconst 1, 1) := by decide +kernel
theorem dX3_passFirst_25 : decode cX3_passFirst 25 = .ok (.isub, 1) := by decide +kernel
theorem dX3_passFirst_26 : decode cX3_passFirst 26 = .ok (.putfield 22, 3) := by decide +kernel
theorem dX3_passFirst_29 : decode cX3_passFirst 29 = .ok (.aload_n 0, 1) := by decide +kernel
theorem dX3_passFirst_30 : decode cX3_passFirst 30 = .ok (.getfield 11, 3) := by decide +kernel
theorem dX3_passFirst_33 : decode cX3_passFirst 33 = .ok (.iload_n 1, 1) := by decide +kernel
theorem dX3_passFirst_34 : decode cX3_passFirst 34 = .ok (.aload_n 0, 1) := by decide +kernel
theorem dX3_passFirst_35 : decode cX3_passFirst 35 = .ok (.getfield 11, 3) := by decide +kernel
theorem dX3_passFirst_38 : decode cX3_passFirst 38 = .ok (.aload_n 0, 1) := by decide +kernel
theorem dX3_passFirst_39 : decode cX3_passFirst 39 = .ok (.getfield 22, 3) := by decide +kernel
theorem dX3_passFirst_42 : decode cX3_passFirst 42 = .ok (.aaload, 1) := by decide +kernel
theorem dX3_passFirst_43 : decode cX3_passFirst 43 = .ok (.aastore, 1) := by decide +kernel
theorem dX3_passFirst_44 : decode cX3_passFirst 44 = .ok (.aload_n 0, 1) := by decide +kernel
theorem dX3_passFirst_45 : decode cX3_passFirst 45 = .ok (.getfield 11, 3) := by decide +kernel
theorem dX3_passFirst_48 : decode cX3_passFirst 48 = .ok (.aload_n 0, 1) := by decide +kernel
theorem dX3_passFirst_49 : decode cX3_passFirst 49 = .ok (.getfield 22, 3) := by decide +kernel
theorem dX3_passFirst_52 : decode cX3_passFirst 52 = .ok (.aload_n 2, 1) := by decide +kernel
theorem dX3_passFirst_53 : decode cX3_passFirst 53 = .ok (.aastore, 1) := by decide +kernel
theorem dX3_passFirst_54 : decode cX3_passFirst 54 = .ok (.return_, 1) := by decide +kernel
theorem dX3_firstIndex_0 : decode cX3_firstIndex 0 = .ok (.iconst 0, 1) := by decide +kernel
theorem dX3_firstIndex_1 : decode cX3_firstIndex 1 = .ok (.istore_n 1, 1) := by decide +kernel
theorem dX3_firstIndex_2 : decode cX3_firstIndex 2 = .ok (.iconst 1, 1) := by decide +kernel
theorem dX3_firstIndex_3 : decode cX3_firstIndex 3 = .ok (.istore_n 2, 1) := by decide +kernel
theorem dX3_firstIndex_4 : decode cX3_firstIndex 4 = .ok (.iload_n 2, 1) := by decide +kernel
theorem dX3_firstIndex_5 : decode cX3_firstIndex 5 = .ok (.aload_n 0, 1) := by decide +kernel
theorem dX3_firstIndex_6 : decode cX3_firstIndex 6 = .ok (.getfield 22, 3) := by decide +kernel
theorem dX3_firstIndex_9 : decode cX3_firstIndex 9 = .ok (.if_icmp .ge 29, 3) := by decide +kernel
theorem dX3_firstIndex_12 : decode cX3_firstIndex 12 = .ok (.aload_n 0, 1) := by decide +kernel
theorem dX3_firstIndex_13 : decode cX3_firstIndex 13 = .ok (.getfield 11, 3) := by decide +kernel
theorem dX3_firstIndex_16 : decode cX3_firstIndex 16 = .ok (.iload_n 2, 1) := by decide +kernel
theorem dX3_firstIndex_17 : decode cX3_firstIndex 17 = .ok (.aaload, 1) := by decide +kernel
theorem dX3_firstIndex_18 : decode cX3_firstIndex 18 = .ok (.aload_n 0, 1) := by decide +kernel
theorem dX3_firstIndex_19 : decode cX3_firstIndex 19 = .ok (.getfield 11, 3) := by decide +kernel
theorem dX3_firstIndex_22 : decode cX3_firstIndex 22 = .ok (.iload_n 1, 1) := by decide +kernel
theorem dX3_firstIndex_23 : decode cX3_firstIndex 23 = .ok (.aaload, 1) := by decide +kernel
theorem dX3_firstIndex_24 : decode cX3_firstIndex 24 = .ok (.invokevirtual 50, 3) := by decide +kernel
theorem dX3_firstIndex_27 : decode cX3_firstIndex 27 = .ok (.ifCond .eq 5, 3) := by decide +kernel
theorem dX3_firstIndex_30 : decode cX3_firstIndex 30 = .ok (.iload_n 2, 1) := by decide +kernel
theorem dX3_firstIndex_31 : decode cX3_firstIndex 31 = .ok (.istore_n 1, 1) := by decide +kernel
theorem dX3_firstIndex_32 : decode cX3_firstIndex 32 = .ok (.iinc 2 1, 3) := by decide +kernel
theorem dX3_firstIndex_35 : decode cX3_firstIndex 35 = .ok (.goto (-31), 3) := by decide +kernel
theorem dX3_firstIndex_38 : decode cX3_firstIndex 38 = .ok (.iload_n 1, 1) := by decide +kernel
theorem dX3_firstIndex_39 : decode cX3_firstIndex 39 = .ok (.ireturn, 1) := by decide +kernel
theorem dX4_init_0 : decode cX4_init 0 = .ok (.aload_n 0, 1) := by decide +kernel
theorem dX4_init_1 : decode cX4_init 1 = .ok (.invokespecial 3, 3) := by decide +kernel
theorem dX4_init_4 : decode cX4_init 4 = .ok (.aload_n 0, 1) := by decide +kernel
theorem dX4_init_5 : decode cX4_init 5 = .ok (.new 9, 3) := by decide +kernel
theorem dX4_init_8 : decode cX4_init 8 = .ok (.dup, 1) := by decide +kernel
theorem dX4_init_9 : decode cX4_init 9 = .ok (.invokespecial 11, 3) := by decide +kernel
theorem dX4_init_12 : decode cX4_init 12 = .ok (.putfield 12, 3) := by decide +kernel
theorem dX4_init_15 : decode cX4_init 15 = .ok (.aload_n 0, 1) := by decide +kernel
theorem dX4_init_16 : decode cX4_init 16 = .ok (.bipush 61, 2) := by decide +kernel
theorem dX4_init_18 : decode cX4_init 18 = .ok (.newarray .int, 2) := by decide +kernel
theorem dX4_init_20 : decode cX4_init 20 = .ok (.putfield 18, 3) := by decide +kernel
theorem dX4_init_23 : decode cX4_init 23 = .ok (.aload_n 0, 1) := by decide +kernel
theorem dX4_init_24 : decode cX4_init 24 = .ok (.bipush 61, 2) := by decide +kernel
theorem dX4_init_26 : decode cX4_init 26 = .ok (.newarray .int, 2) := by decide +kernel
theorem dX4_init_28 : decode cX4_init 28 = .ok (.putfield 22, 3) := by decide +kernel
theorem dX4_init_31 : decode cX4_init 31 = .ok (.aload_n 0, 1) := by decide +kernel
theorem dX4_init_32 : decode cX4_init 32 = .ok (.bipush 61, 2) := by decide +kernel
theorem dX4_init_34 : decode cX4_init 34 = .ok (.newarray .int, 2) := by decide +kernel
theorem dX4_init_36 : decode cX4_init 36 = .ok (.putfield 25, 3) := by decide +kernel
theorem dX4_init_39 : decode cX4_init 39 = .ok (.aload_n 0, 1) := by decide +kernel
theorem dX4_init_40 : decode cX4_init 40 = .ok (.bipush 61, 2) := by decide +kernel
theorem dX4_init_42 : decode cX4_init 42 = .ok (.newarray .int, 2) := by decide +kernel
theorem dX4_init_44 : decode cX4_init 44 = .ok (.putfield 28, 3) := by decide +kernel
theorem dX4_init_47 : decode cX4_init 47 = .ok (.new 31, 3) := by decide +kernel
theorem dX4_init_50 : decode cX4_init 50 = .ok (.dup, 1) := by decide +kernel
theorem dX4_init_51 : decode cX4_init 51 = .ok (.invokespecial 33, 3) := by decide +kernel
theorem dX4_init_54 : decode cX4_init 54 = .ok (.astore_n 1, 1) := by decide +kernel
theorem dX4_init_55 : decode cX4_init 55 = .ok (.iconst 2, 1) := by decide +kernel
theorem dX4_init_56 : decode cX4_init 56 = .ok (.istore_n 2, 1) := by decide +kernel
theorem dX4_init_57 : decode cX4_init 57 = .ok (.iload_n 2, 1) := by decide +kernel
theorem dX4_init_58 : decode cX4_init 58 = .ok (.bipush 60, 2) := by decide +kernel
theorem dX4_init_60 : decode cX4_init 60 = .ok (.if_icmp .gt 38, 3) := by decide +kernel
theorem dX4_init_63 : decode cX4_init 63 = .ok (.aload_n 0, 1) := by decide +kernel
theorem dX4_init_64 : decode cX4_init 64 = .ok (.getfield 12, 3) := by decide +kernel
theorem dX4_init_67 : decode cX4_init 67 = .ok (.iload_n 2, 1) := by decide +kernel
theorem dX4_init_68 : decode cX4_init 68 = .ok (.invokevirtual 34, 3) := by decide +kernel
theorem dX4_init_71 : decode cX4_init 71 = .ok (.aload_n 0, 1) := by decide +kernel
theorem dX4_init_72 : decode cX4_init 72 = .ok (.getfield 12, 3) := by decide +kernel
theorem dX4_init_75 : decode cX4_init 75 = .ok (.invokevirtual 38, 3) := by decide +kernel
theorem dX4_init_78 : decode cX4_init 78 = .ok (.ifCond .ne 14, 3) := by decide +kernel
theorem dX4_init_81 : decode cX4_init 81 = .ok (.aload_n 0, 1) := by decide +kernel
theorem dX4_init_82 : decode cX4_init 82 = .ok (.iload_n 2, 1) := by decide +kernel
theorem dX4_init_83 : decode cX4_init 83 = .ok (.invokevirtual 42, 3) := by decide +kernel
theorem dX4_init_86 : decode cX4_init 86 = .ok (.aload_n 0, 1) := by decide +kernel
theorem dX4_init_87 : decode cX4_init 87 = .ok (.iload_n 2, 1) := by decide +kernel
theorem dX4_init_88 : decode cX4_init 88 = .ok (.aload_n 1, 1) := by decide +kernel
theorem dX4_init_89 : decode cX4_init 89 = .ok (.invokevirtual 45, 3) := by decide +kernel
theorem dX4_init_92 : decode cX4_init 92 = .ok (.iinc 2 1, 3) := by decide +kernel
theorem dX4_init_95 : decode cX4_init 95 = .ok (.goto (-38), 3) := by decide +kernel
theorem dX4_init_98 : decode cX4_init 98 = .ok (.return_, 1) := by decide +kernel
theorem dX4_findUnit_0 : decode cX4_findUnit 0 = .ok (.iconst 1, 1) := by decide +kernel
theorem dX4_findUnit_1 : decode cX4_findUnit 1 = .ok (.istore_n 2, 1) := by decide +kernel
theorem dX4_findUnit_2 : decode cX4_findUnit 2 = .ok (.iconst 0, 1) := by decide +kernel
theorem dX4_findUnit_3 : decode cX4_findUnit 3 = .ok (.istore_n 3, 1) := by decide +kernel
theorem dX4_findUnit_4 : decode cX4_findUnit 4 = .ok (.aload_n 0, 1) := by decide +kernel
theorem dX4_findUnit_5 : decode cX4_findUnit 5 = .ok (.getfield 12, 3) := by decide +kernel
theorem dX4_findUnit_8 : decode cX4_findUnit 8 = .ok (.getfield 49, 3) := by decide +kernel
theorem dX4_findUnit_11 : decode cX4_findUnit 11 = .ok (.istore 4, 2) := by decide +kernel
theorem dX4_findUnit_13 : decode cX4_findUnit 13 = .ok (.iconst 1, 1) := by decide +kernel
theorem dX4_findUnit_14 : decode cX4_findUnit 14 = .ok (.istore 5, 2) := by decide +kernel
theorem dX4_findUnit_16 : decode cX4_findUnit 16 = .ok (.iconst 1, 1) := by decide +kernel
theorem dX4_findUnit_17 : decode cX4_findUnit 17 = .ok (.istore 6, 2) := by decide +kernel
theorem dX4_findUnit_19 : decode cX4_findUnit 19 = .ok (.iload 6, 2) := by decide +kernel
theorem dX4_findUnit_21 : decode cX4_findUnit 21 = .ok (.bipush 99, 2) := by decide +kernel
theorem dX4_findUnit_23 : decode cX4_findUnit 23 = .ok (.if_icmp .gt 93, 3) := by decide +kernel
theorem dX4_findUnit_26 : decode cX4_findUnit 26 = .ok (.aload_n 0, 1) := by decide +kernel
theorem dX4_findUnit_27 : decode cX4_findUnit 27 = .ok (.getfield 12, 3) := by decide +kernel
theorem dX4_findUnit_30 : decode cX4_findUnit 30 = .ok (.invokevirtual 53, 3) := by decide +kernel
theorem dX4_findUnit_33 : decode cX4_findUnit 33 = .ok (.aload_n 0, 1) := by decide +kernel
theorem dX4_findUnit_34 : decode cX4_findUnit 34 = .ok (.getfield 12, 3) := by decide +kernel
theorem dX4_findUnit_37 : decode cX4_findUnit 37 = .ok (.invokevirtual 56, 3) := by decide +kernel
theorem dX4_findUnit_40 : decode cX4_findUnit 40 = .ok (.ifCond .eq 28, 3) := by decide +kernel
theorem dX4_findUnit_43 : decode cX4_findUnit 43 = .ok (.aload_n 0, 1) := by decide +kernel
theorem dX4_findUnit_44 : decode cX4_findUnit 44 = .ok (.getfield 18, 3) := by decide +kernel
theorem dX4_findUnit_47 : decode cX4_findUnit 47 = .ok (.iload_n 1, 1) := by decide +kernel
theorem dX4_findUnit_48 : decode cX4_findUnit 48 = .ok (.iload 6, 2) := by decide +kernel
theorem dX4_findUnit_50 : decode cX4_findUnit 50 = .ok (.iastore, 1) := by decide +kernel
theorem dX4_findUnit_51 : decode cX4_findUnit 51 = .ok (.aload_n 0, 1) := by decide +kernel
theorem dX4_findUnit_52 : decode cX4_findUnit 52 = .ok (.getfield 22, 3) := by decide +kernel
theorem dX4_findUnit_55 : decode cX4_findUnit 55 = .ok (.iload_n 1, 1) := by decide +kernel
theorem dX4_findUnit_56 : decode cX4_findUnit 56 = .ok (.iload 4, 2) := by decide +kernel
theorem dX4_findUnit_58 : decode cX4_findUnit 58 = .ok (.iastore, 1) := by decide +kernel
theorem dX4_findUnit_59 : decode cX4_findUnit 59 = .ok (.aload_n 0, 1) := by decide +kernel
theorem dX4_findUnit_60 : decode cX4_findUnit 60 = .ok (.getfield 25, 3) := by decide +kernel
theorem dX4_findUnit_63 : decode cX4_findUnit 63 = .ok (.iload_n 1, 1) := by decide +kernel
theorem dX4_findUnit_64 : decode cX4_findUnit 64 = .ok (.iload 5, 2) := by decide +kernel
theorem dX4_findUnit_66 : decode cX4_findUnit 66 = .ok (.iastore, 1) := by decide +kernel
theorem dX4_findUnit_67 : decode cX4_findUnit 67 = .ok (.return_, 1) := by decide +kernel
theorem dX4_findUnit_68 : decode cX4_findUnit 68 = .ok (.aload_n 0, 1) := by decide +kernel
theorem dX4_findUnit_69 : decode cX4_findUnit 69 = .ok (.getfield 12, 3) := by decide +kernel
theorem dX4_findUnit_72 : decode cX4_findUnit 72 = .ok (.getfield 49, 3) := by decide +kernel
theorem dX4_findUnit_75 : decode cX4_findUnit 75 = .ok (.iload 4, 2) := by decide +kernel
theorem dX4_findUnit_77 : decode cX4_findUnit 77 = .ok (.imul, 1) := by decide +kernel
theorem dX4_findUnit_78 : decode cX4_findUnit 78 = .ok (.iload_n 2, 1) := by decide +kernel
theorem dX4_findUnit_79 : decode cX4_findUnit 79 = .ok (.iadd, 1) := by decide +kernel
theorem dX4_findUnit_80 : decode cX4_findUnit 80 = .ok (.istore 7, 2) := by decide +kernel
theorem dX4_findUnit_82 : decode cX4_findUnit 82 = .ok (.aload_n 0, 1) := by decide +kernel
theorem dX4_findUnit_83 : decode cX4_findUnit 83 = .ok (.getfield 12, 3) := by decide +kernel
theorem dX4_findUnit_86 : decode cX4_findUnit 86 = .ok (.getfield 49, 3) := by decide +kernel
theorem dX4_findUnit_89 : decode cX4_findUnit 89 = .ok (.iload 5, 2) := by decide +kernel
theorem dX4_findUnit_91 : decode cX4_findUnit 91 = .ok (.imul, 1) := by decide +kernel
theorem dX4_findUnit_92 : decode cX4_findUnit 92 = .ok (.iload_n 3, 1) := by decide +kernel
theorem dX4_findUnit_93 : decode cX4_findUnit 93 = .ok (.iadd, 1) := by decide +kernel
theorem dX4_findUnit_94 : decode cX4_findUnit 94 = .ok (.istore 8, 2) := by decide +kernel
theorem dX4_findUnit_96 : decode cX4_findUnit 96 = .ok (.iload 4, 2) := by decide +kernel
theorem dX4_findUnit_98 : decode cX4_findUnit 98 = .ok (.istore_n 2, 1) := by decide +kernel
theorem dX4_findUnit_99 : decode cX4_findUnit 99 = .ok (.iload 5, 2) := by decide +kernel
theorem dX4_findUnit_101 : decode cX4_findUnit 101 = .ok (.istore_n 3, 1) := by decide +kernel
theorem dX4_findUnit_102 : decode cX4_findUnit 102 = .ok (.iload 7, 2) := by decide +kernel
theorem dX4_findUnit_104 : decode cX4_findUnit 104 = .ok (.istore 4, 2) := by decide +kernel
theorem dX4_findUnit_106 : decode cX4_findUnit 106 = .ok (.iload 8, 2) := by decide +kernel
theorem dX4_findUnit_108 : decode cX4_findUnit 108 = .ok (.istore 5, 2) := by decide +kernel
theorem dX4_findUnit_110 : decode cX4_findUnit 110 = .ok (.iinc 6 1, 3) := by decide +kernel
theorem dX4_findUnit_113 : decode cX4_findUnit 113 = .ok (.goto (-94), 3) := by decide +kernel
theorem dX4_findUnit_116 : decode cX4_findUnit 116 = .ok (.return_, 1) := by decide +kernel
theorem dX4_findGreatestPower_0 : decode cX4_findGreatestPower 0 = .ok (.aload_n 0, 1) := by decide +kernel
theorem dX4_findGreatestPower_1 : decode cX4_findGreatestPower 1 = .ok (.aload_n 2, 1) := by decide +kernel
theorem dX4_findGreatestPower_2 : decode cX4_findGreatestPower 2 = .ok (.iload_n 1, 1) := by decide +kernel
theorem dX4_findGreatestPower_3 : decode cX4_findGreatestPower 3 = .ok (.invokevirtual 59, 3) := by decide +kernel
theorem dX4_findGreatestPower_6 : decode cX4_findGreatestPower 6 = .ok (.iconst 1, 1) := by decide +kernel
theorem dX4_findGreatestPower_7 : decode cX4_findGreatestPower 7 = .ok (.istore_n 3, 1) := by decide +kernel
theorem dX4_findGreatestPower_8 : decode cX4_findGreatestPower 8 = .ok (.iload_n 3, 1) := by decide +kernel
theorem dX4_findGreatestPower_9 : decode cX4_findGreatestPower 9 = .ok (.ldc 62, 2) := by decide +kernel
theorem dX4_findGreatestPower_11 : decode cX4_findGreatestPower 11 = .ok (.if_icmp .ge 23, 3) := by decide +kernel
theorem dX4_findGreatestPower_14 : decode cX4_findGreatestPower 14 = .ok (.aload_n 2, 1) := by decide +kernel
theorem dX4_findGreatestPower_15 : decode cX4_findGreatestPower 15 = .ok (.invokevirtual 63, 3) := by decide +kernel
theorem dX4_findGreatestPower_18 : decode cX4_findGreatestPower 18 = .ok (.ifCond .eq 16, 3) := by decide +kernel
theorem dX4_findGreatestPower_21 : decode cX4_findGreatestPower 21 = .ok (.aload_n 0, 1) := by decide +kernel
theorem dX4_findGreatestPower_22 : decode cX4_findGreatestPower 22 = .ok (.getfield 28, 3) := by decide +kernel
theorem dX4_findGreatestPower_25 : decode cX4_findGreatestPower 25 = .ok (.iload_n 1, 1) := by decide +kernel
theorem dX4_findGreatestPower_26 : decode cX4_findGreatestPower 26 = .ok (.iload_n 3, 1) := by decide +kernel
theorem dX4_findGreatestPower_27 : decode cX4_findGreatestPower 27 = .ok (.iastore, 1) := by decide +kernel
theorem dX4_findGreatestPower_28 : decode cX4_findGreatestPower 28 = .ok (.iinc 3 1, 3) := by decide +kernel
theorem dX4_findGreatestPower_31 : decode cX4_findGreatestPower 31 = .ok (.goto (-23), 3) := by decide +kernel
theorem dX4_findGreatestPower_34 : decode cX4_findGreatestPower 34 = .ok (.return_, 1) := by decide +kernel
theorem dX4_begin_0 : decode cX4_begin 0 = .ok (.aload_n 1, 1) := by decide +kernel
theorem dX4_begin_1 : decode cX4_begin 1 = .ok (.iload_n 2, 1) := by decide +kernel
theorem dX4_begin_2 : decode cX4_begin 2 = .ok (.aload_n 0, 1) := by decide +kernel
theorem dX4_begin_3 : decode cX4_begin 3 = .ok (.iload_n 2, 1) := by decide +kernel
theorem dX4_begin_4 : decode cX4_begin 4 = .ok (.invokevirtual 66, 3) := by decide +kernel
theorem dX4_begin_7 : decode cX4_begin 7 = .ok (.aload_n 0, 1) := by decide +kernel
theorem dX4_begin_8 : decode cX4_begin 8 = .ok (.iload_n 2, 1) := by decide +kernel
theorem dX4_begin_9 : decode cX4_begin 9 = .ok (.invokevirtual 70, 3) := by decide +kernel
theorem dX4_begin_12 : decode cX4_begin 12 = .ok (.invokevirtual 73, 3) := by decide +kernel
theorem dX4_begin_15 : decode cX4_begin 15 = .ok (.return_, 1) := by decide +kernel
theorem dX4_term_0 : decode cX4_term 0 = .ok (.aload_n 0, 1) := by decide +kernel
theorem dX4_term_1 : decode cX4_term 1 = .ok (.getfield 12, 3) := by decide +kernel
theorem dX4_term_4 : decode cX4_term 4 = .ok (.iload_n 1, 1) := by decide +kernel
theorem dX4_term_5 : decode cX4_term 5 = .ok (.invokevirtual 34, 3) := by decide +kernel
theorem dX4_term_8 : decode cX4_term 8 = .ok (.iconst 0, 1) := by decide +kernel
theorem dX4_term_9 : decode cX4_term 9 = .ok (.istore_n 3, 1) := by decide +kernel
theorem dX4_term_10 : decode cX4_term 10 = .ok (.iload_n 3, 1) := by decide +kernel
theorem dX4_term_11 : decode cX4_term 11 = .ok (.iload_n 2, 1) := by decide +kernel
theorem dX4_term_12 : decode cX4_term 12 = .ok (.if_icmp .ge 22, 3) := by decide +kernel
theorem dX4_term_15 : decode cX4_term 15 = .ok (.iload_n 3, 1) := by decide +kernel
theorem dX4_term_16 : decode cX4_term 16 = .ok (.bipush 99, 2) := by decide +kernel
theorem dX4_term_18 : decode cX4_term 18 = .ok (.if_icmp .ge 16, 3) := by decide +kernel
theorem dX4_term_21 : decode cX4_term 21 = .ok (.aload_n 0, 1) := by decide +kernel
theorem dX4_term_22 : decode cX4_term 22 = .ok (.getfield 12, 3) := by decide +kernel
theorem dX4_term_25 : decode cX4_term 25 = .ok (.invokevirtual 53, 3) := by decide +kernel
theorem dX4_term_28 : decode cX4_term 28 = .ok (.iinc 3 1, 3) := by decide +kernel
theorem dX4_term_31 : decode cX4_term 31 = .ok (.goto (-21), 3) := by decide +kernel
theorem dX4_term_34 : decode cX4_term 34 = .ok (.aload_n 0, 1) := by decide +kernel
theorem dX4_term_35 : decode cX4_term 35 = .ok (.getfield 12, 3) := by decide +kernel
theorem dX4_term_38 : decode cX4_term 38 = .ok (.getfield 49, 3) := by decide +kernel
theorem dX4_term_41 : decode cX4_term 41 = .ok (.ireturn, 1) := by decide +kernel
theorem dX4_isSquare_0 : decode cX4_isSquare 0 = .ok (.iload_n 1, 1) := by decide +kernel
theorem dX4_isSquare_1 : decode cX4_isSquare 1 = .ok (.ifCond .lt 25, 3) := by decide +kernel
theorem dX4_isSquare_4 : decode cX4_isSquare 4 = .ok (.iload_n 1, 1) := by decide +kernel
theorem dX4_isSquare_5 : decode cX4_isSquare 5 = .ok (.aload_n 0, 1) := by decide +kernel
theorem dX4_isSquare_6 : decode cX4_isSquare 6 = .ok (.getfield 18, 3) := by decide +kernel
theorem dX4_isSquare_9 : decode cX4_isSquare 9 = .ok (.arraylength, 1) := by decide +kernel
theorem dX4_isSquare_10 : decode cX4_isSquare 10 = .ok (.if_icmp .ge 16, 3) := by decide +kernel
theorem dX4_isSquare_13 : decode cX4_isSquare 13 = .ok (.aload_n 0, 1) := by decide +kernel
theorem dX4_isSquare_14 : decode cX4_isSquare 14 = .ok (.getfield 18, 3) := by decide +kernel
theorem dX4_isSquare_17 : decode cX4_isSquare 17 = .ok (.iload_n 1, 1) := by decide +kernel
theorem dX4_isSquare_18 : decode cX4_isSquare 18 = .ok (.iaload, 1) := by decide +kernel
theorem dX4_isSquare_19 : decode cX4_isSquare 19 = .ok (.ifCond .ne 7, 3) := by decide +kernel
theorem dX4_isSquare_22 : decode cX4_isSquare 22 = .ok (.iconst 1, 1) := by decide +kernel
theorem dX4_isSquare_23 : decode cX4_isSquare 23 = .ok (.goto 4, 3) := by decide +kernel
theorem dX4_isSquare_26 : decode cX4_isSquare 26 = .ok (.iconst 0, 1) := by decide +kernel
theorem dX4_isSquare_27 : decode cX4_isSquare 27 = .ok (.ireturn, 1) := by decide +kernel
theorem dX4_period_0 : decode cX4_period 0 = .ok (.iload_n 1, 1) := by decide +kernel
theorem dX4_period_1 : decode cX4_period 1 = .ok (.ifCond .lt 21, 3) := by decide +kernel
theorem dX4_period_4 : decode cX4_period 4 = .ok (.iload_n 1, 1) := by decide +kernel
theorem dX4_period_5 : decode cX4_period 5 = .ok (.aload_n 0, 1) := by decide +kernel
theorem dX4_period_6 : decode cX4_period 6 = .ok (.getfield 18, 3) := by decide +kernel
theorem dX4_period_9 : decode cX4_period 9 = .ok (.arraylength, 1) := by decide +kernel
theorem dX4_period_10 : decode cX4_period 10 = .ok (.if_icmp .ge 12, 3) := by decide +kernel
theorem dX4_period_13 : decode cX4_period 13 = .ok (.aload_n 0, 1) := by decide +kernel
theorem dX4_period_14 : decode cX4_period 14 = .ok (.getfield 18, 3) := by decide +kernel
theorem dX4_period_17 : decode cX4_period 17 = .ok (.iload_n 1, 1) := by decide +kernel
theorem dX4_period_18 : decode cX4_period 18 = .ok (.iaload, 1) := by decide +kernel
theorem dX4_period_19 : decode cX4_period 19 = .ok (.goto 4, 3) := by decide +kernel
theorem dX4_period_22 : decode cX4_period 22 = .ok (.iconst 0, 1) := by decide +kernel
theorem dX4_period_23 : decode cX4_period 23 = .ok (.ireturn, 1) := by decide +kernel
theorem dX4_xOfUnit_0 : decode cX4_xOfUnit 0 = .ok (.iload_n 1, 1) := by decide +kernel
theorem dX4_xOfUnit_1 : decode cX4_xOfUnit 1 = .ok (.ifCond .lt 21, 3) := by decide +kernel
theorem dX4_xOfUnit_4 : decode cX4_xOfUnit 4 = .ok (.iload_n 1, 1) := by decide +kernel
theorem dX4_xOfUnit_5 : decode cX4_xOfUnit 5 = .ok (.aload_n 0, 1) := by decide +kernel
theorem dX4_xOfUnit_6 : decode cX4_xOfUnit 6 = .ok (.getfield 22, 3) := by decide +kernel
theorem dX4_xOfUnit_9 : decode cX4_xOfUnit 9 = .ok (.arraylength, 1) := by decide +kernel
theorem dX4_xOfUnit_10 : decode cX4_xOfUnit 10 = .ok (.if_icmp .ge 12, 3) := by decide +kernel
theorem dX4_xOfUnit_13 : decode cX4_xOfUnit 13 = .ok (.aload_n 0, 1) := by decide +kernel
theorem dX4_xOfUnit_14 : decode cX4_xOfUnit 14 = .ok (.getfield 22, 3) := by decide +kernel
theorem dX4_xOfUnit_17 : decode cX4_xOfUnit 17 = .ok (.iload_n 1, 1) := by decide +kernel
theorem dX4_xOfUnit_18 : decode cX4_xOfUnit 18 = .ok (.iaload, 1) := by decide +kernel
theorem dX4_xOfUnit_19 : decode cX4_xOfUnit 19 = .ok (.goto 4, 3) := by decide +kernel
theorem dX4_xOfUnit_22 : decode cX4_xOfUnit 22 = .ok (.iconst 0, 1) := by decide +kernel
theorem dX4_xOfUnit_23 : decode cX4_xOfUnit 23 = .ok (.ireturn, 1) := by decide +kernel
theorem dX4_yOfUnit_0 : decode cX4_yOfUnit 0 = .ok (.iload_n 1, 1) := by decide +kernel
theorem dX4_yOfUnit_1 : decode cX4_yOfUnit 1 = .ok (.ifCond .lt 21, 3) := by decide +kernel
theorem dX4_yOfUnit_4 : decode cX4_yOfUnit 4 = .ok (.iload_n 1, 1) := by decide +kernel
theorem dX4_yOfUnit_5 : decode cX4_yOfUnit 5 = .ok (.aload_n 0, 1) := by decide +kernel
theorem dX4_yOfUnit_6 : decode cX4_yOfUnit 6 = .ok (.getfield 25, 3) := by decide +kernel
theorem dX4_yOfUnit_9 : decode cX4_yOfUnit 9 = .ok (.arraylength, 1) := by decide +kernel
theorem dX4_yOfUnit_10 : decode cX4_yOfUnit 10 = .ok (.if_icmp .ge 12, 3) := by decide +kernel
theorem dX4_yOfUnit_13 : decode cX4_yOfUnit 13 = .ok (.aload_n 0, 1) := by decide +kernel
theorem dX4_yOfUnit_14 : decode cX4_yOfUnit 14 = .ok (.getfield 25, 3) := by decide +kernel
theorem dX4_yOfUnit_17 : decode cX4_yOfUnit 17 = .ok (.iload_n 1, 1) := by decide +kernel
theorem dX4_yOfUnit_18 : decode cX4_yOfUnit 18 = .ok (.iaload, 1) := by decide +kernel
theorem dX4_yOfUnit_19 : decode cX4_yOfUnit 19 = .ok (.goto 4, 3) := by decide +kernel
theorem dX4_yOfUnit_22 : decode cX4_yOfUnit 22 = .ok (.iconst 0, 1) := by decide +kernel
theorem dX4_yOfUnit_23 : decode cX4_yOfUnit 23 = .ok (.ireturn, 1) := by decide +kernel
theorem dX4_signOfUnit_0 : decode cX4_signOfUnit 0 = .ok (.aload_n 0, 1) := by decide +kernel
theorem dX4_signOfUnit_1 : decode cX4_signOfUnit 1 = .ok (.iload_n 1, 1) := by decide +kernel
theorem dX4_signOfUnit_2 : decode cX4_signOfUnit 2 = .ok (.invokevirtual 76, 3) := by decide +kernel
theorem dX4_signOfUnit_5 : decode cX4_signOfUnit 5 = .ok (.iconst 2, 1) := by decide +kernel
theorem dX4_signOfUnit_6 : decode cX4_signOfUnit 6 = .ok (.irem, 1) := by decide +kernel
theorem dX4_signOfUnit_7 : decode cX4_signOfUnit 7 = .ok (.ifCond .ne 7, 3) := by decide +kernel
theorem dX4_signOfUnit_10 : decode cX4_signOfUnit 10 = .ok (.iconst 1, 1) := by decide +kernel
theorem dX4_signOfUnit_11 : decode cX4_signOfUnit 11 = .ok (.goto 4, 3) := by decide +kernel
theorem dX4_signOfUnit_14 : decode cX4_signOfUnit 14 = .ok (.iconst (-1), 1) := by decide +kernel
theorem dX4_signOfUnit_15 : decode cX4_signOfUnit 15 = .ok (.ireturn, 1) := by decide +kernel
theorem dX4_greatestPower_0 : decode cX4_greatestPower 0 = .ok (.iload_n 1, 1) := by decide +kernel
theorem dX4_greatestPower_1 : decode cX4_greatestPower 1 = .ok (.ifCond .lt 21, 3) := by decide +kernel
theorem dX4_greatestPower_4 : decode cX4_greatestPower 4 = .ok (.iload_n 1, 1) := by decide +kernel
theorem dX4_greatestPower_5 : decode cX4_greatestPower 5 = .ok (.aload_n 0, 1) := by decide +kernel
theorem dX4_greatestPower_6 : decode cX4_greatestPower 6 = .ok (.getfield 28, 3) := by decide +kernel
theorem dX4_greatestPower_9 : decode cX4_greatestPower 9 = .ok (.arraylength, 1) := by decide +kernel
theorem dX4_greatestPower_10 : decode cX4_greatestPower 10 = .ok (.if_icmp .ge 12, 3) := by decide +kernel
theorem dX4_greatestPower_13 : decode cX4_greatestPower 13 = .ok (.aload_n 0, 1) := by decide +kernel
theorem dX4_greatestPower_14 : decode cX4_greatestPower 14 = .ok (.getfield 28, 3) := by decide +kernel
theorem dX4_greatestPower_17 : decode cX4_greatestPower 17 = .ok (.iload_n 1, 1) := by decide +kernel
theorem dX4_greatestPower_18 : decode cX4_greatestPower 18 = .ok (.iaload, 1) := by decide +kernel
theorem dX4_greatestPower_19 : decode cX4_greatestPower 19 = .ok (.goto 4, 3) := by decide +kernel
theorem dX4_greatestPower_22 : decode cX4_greatestPower 22 = .ok (.iconst 0, 1) := by decide +kernel
theorem dX4_greatestPower_23 : decode cX4_greatestPower 23 = .ok (.ireturn, 1) := by decide +kernel
theorem dX5_init_0 : decode cX5_init 0 = .ok (.aload_n 0, 1) := by decide +kernel
theorem dX5_init_1 : decode cX5_init 1 = .ok (.invokespecial 3, 3) := by decide +kernel
theorem dX5_init_4 : decode cX5_init 4 = .ok (.aload_n 0, 1) := by decide +kernel
theorem dX5_init_5 : decode cX5_init 5 = .ok (.bipush 61, 2) := by decide +kernel
theorem dX5_init_7 : decode cX5_init 7 = .ok (.newarray .int, 2) := by decide +kernel
theorem dX5_init_9 : decode cX5_init 9 = .ok (.putfield 9, 3) := by decide +kernel
theorem dX5_init_12 : decode cX5_init 12 = .ok (.aload_n 0, 1) := by decide +kernel
theorem dX5_init_13 : decode cX5_init 13 = .ok (.aload_n 1, 1) := by decide +kernel
theorem dX5_init_14 : decode cX5_init 14 = .ok (.putfield 15, 3) := by decide +kernel
theorem dX5_init_17 : decode cX5_init 17 = .ok (.aload_n 0, 1) := by decide +kernel
theorem dX5_init_18 : decode cX5_init 18 = .ok (.getfield 9, 3) := by decide +kernel
theorem dX5_init_21 : decode cX5_init 21 = .ok (.iconst (-1), 1) := by decide +kernel
theorem dX5_init_22 : decode cX5_init 22 = .ok (.invokestatic 19, 3) := by decide +kernel
theorem dX5_init_25 : decode cX5_init 25 = .ok (.return_, 1) := by decide +kernel
theorem dX5_copyFrom_0 : decode cX5_copyFrom 0 = .ok (.aload_n 1, 1) := by decide +kernel
theorem dX5_copyFrom_1 : decode cX5_copyFrom 1 = .ok (.getfield 9, 3) := by decide +kernel
theorem dX5_copyFrom_4 : decode cX5_copyFrom 4 = .ok (.iconst 0, 1) := by decide +kernel
theorem dX5_copyFrom_5 : decode cX5_copyFrom 5 = .ok (.aload_n 0, 1) := by decide +kernel
theorem dX5_copyFrom_6 : decode cX5_copyFrom 6 = .ok (.getfield 9, 3) := by decide +kernel
theorem dX5_copyFrom_9 : decode cX5_copyFrom 9 = .ok (.iconst 0, 1) := by decide +kernel
theorem dX5_copyFrom_10 : decode cX5_copyFrom 10 = .ok (.aload_n 0, 1) := by decide +kernel
theorem dX5_copyFrom_11 : decode cX5_copyFrom 11 = .ok (.getfield 9, 3) := by decide +kernel
theorem dX5_copyFrom_14 : decode cX5_copyFrom 14 = .ok (.arraylength, 1) := by decide +kernel
theorem dX5_copyFrom_15 : decode cX5_copyFrom 15 = .ok (.invokestatic 25, 3) := by decide +kernel
theorem dX5_copyFrom_18 : decode cX5_copyFrom 18 = .ok (.aload_n 0, 1) := by decide +kernel
theorem dX5_copyFrom_19 : decode cX5_copyFrom 19 = .ok (.aload_n 1, 1) := by decide +kernel
theorem dX5_copyFrom_20 : decode cX5_copyFrom 20 = .ok (.getfield 31, 3) := by decide +kernel
theorem dX5_copyFrom_23 : decode cX5_copyFrom 23 = .ok (.putfield 31, 3) := by decide +kernel
theorem dX5_copyFrom_26 : decode cX5_copyFrom 26 = .ok (.aload_n 0, 1) := by decide +kernel
theorem dX5_copyFrom_27 : decode cX5_copyFrom 27 = .ok (.aload_n 1, 1) := by decide +kernel
theorem dX5_copyFrom_28 : decode cX5_copyFrom 28 = .ok (.getfield 35, 3) := by decide +kernel
theorem dX5_copyFrom_31 : decode cX5_copyFrom 31 = .ok (.putfield 35, 3) := by decide +kernel
theorem dX5_copyFrom_34 : decode cX5_copyFrom 34 = .ok (.return_, 1) := by decide +kernel
theorem dX5_has_0 : decode cX5_has 0 = .ok (.aload_n 0, 1) := by decide +kernel
theorem dX5_has_1 : decode cX5_has 1 = .ok (.iload_n 1, 1) := by decide +kernel
theorem dX5_has_2 : decode cX5_has 2 = .ok (.invokevirtual 38, 3) := by decide +kernel
theorem dX5_has_5 : decode cX5_has 5 = .ok (.iconst (-1), 1) := by decide +kernel
theorem dX5_has_6 : decode cX5_has 6 = .ok (.if_icmp .eq 7, 3) := by decide +kernel
theorem dX5_has_9 : decode cX5_has 9 = .ok (.iconst 1, 1) := by decide +kernel
theorem dX5_has_10 : decode cX5_has 10 = .ok (.goto 4, 3) := by decide +kernel
theorem dX5_has_13 : decode cX5_has 13 = .ok (.iconst 0, 1) := by decide +kernel
theorem dX5_has_14 : decode cX5_has 14 = .ok (.ireturn, 1) := by decide +kernel
theorem dX5_heightOf_0 : decode cX5_heightOf 0 = .ok (.iload_n 1, 1) := by decide +kernel
theorem dX5_heightOf_1 : decode cX5_heightOf 1 = .ok (.ifCond .lt 21, 3) := by decide +kernel
theorem dX5_heightOf_4 : decode cX5_heightOf 4 = .ok (.iload_n 1, 1) := by decide +kernel
theorem dX5_heightOf_5 : decode cX5_heightOf 5 = .ok (.aload_n 0, 1) := by decide +kernel
theorem dX5_heightOf_6 : decode cX5_heightOf 6 = .ok (.getfield 9, 3) := by decide +kernel
theorem dX5_heightOf_9 : decode cX5_heightOf 9 = .ok (.arraylength, 1) := by decide +kernel
theorem dX5_heightOf_10 : decode cX5_heightOf 10 = .ok (.if_icmp .ge 12, 3) := by decide +kernel
theorem dX5_heightOf_13 : decode cX5_heightOf 13 = .ok (.aload_n 0, 1) := by decide +kernel
theorem dX5_heightOf_14 : decode cX5_heightOf 14 = .ok (.getfield 9, 3) := by decide +kernel
theorem dX5_heightOf_17 : decode cX5_heightOf 17 = .ok (.iload_n 1, 1) := by decide +kernel
theorem dX5_heightOf_18 : decode cX5_heightOf 18 = .ok (.iaload, 1) := by decide +kernel
theorem dX5_heightOf_19 : decode cX5_heightOf 19 = .ok (.goto 4, 3) := by decide +kernel
theorem dX5_heightOf_22 : decode cX5_heightOf 22 = .ok (.iconst (-1), 1) := by decide +kernel
theorem dX5_heightOf_23 : decode cX5_heightOf 23 = .ok (.ireturn, 1) := by decide +kernel
theorem dX5_sign_0 : decode cX5_sign 0 = .ok (.aload_n 0, 1) := by decide +kernel
theorem dX5_sign_1 : decode cX5_sign 1 = .ok (.getfield 15, 3) := by decide +kernel
theorem dX5_sign_4 : decode cX5_sign 4 = .ok (.iload_n 1, 1) := by decide +kernel
theorem dX5_sign_5 : decode cX5_sign 5 = .ok (.invokevirtual 42, 3) := by decide +kernel
theorem dX5_sign_8 : decode cX5_sign 8 = .ok (.iconst (-1), 1) := by decide +kernel
theorem dX5_sign_9 : decode cX5_sign 9 = .ok (.if_icmp .ne 18, 3) := by decide +kernel
theorem dX5_sign_12 : decode cX5_sign 12 = .ok (.aload_n 0, 1) := by decide +kernel
theorem dX5_sign_13 : decode cX5_sign 13 = .ok (.iload_n 1, 1) := by decide +kernel
theorem dX5_sign_14 : decode cX5_sign 14 = .ok (.invokevirtual 38, 3) := by decide +kernel
theorem dX5_sign_17 : decode cX5_sign 17 = .ok (.iconst 2, 1) := by decide +kernel
theorem dX5_sign_18 : decode cX5_sign 18 = .ok (.irem, 1) := by decide +kernel
theorem dX5_sign_19 : decode cX5_sign 19 = .ok (.iconst 1, 1) := by decide +kernel
theorem dX5_sign_20 : decode cX5_sign 20 = .ok (.if_icmp .ne 7, 3) := by decide +kernel
theorem dX5_sign_23 : decode cX5_sign 23 = .ok (.iconst (-1), 1) := by decide +kernel
theorem dX5_sign_24 : decode cX5_sign 24 = .ok (.goto 4, 3) := by decide +kernel
theorem dX5_sign_27 : decode cX5_sign 27 = .ok (.iconst 1, 1) := by decide +kernel
theorem dX5_sign_28 : decode cX5_sign 28 = .ok (.ireturn, 1) := by decide +kernel
theorem dX5_reasonAgainstLaying_0 : decode cX5_reasonAgainstLaying 0 = .ok (.aload_n 0, 1) := by decide +kernel
theorem dX5_reasonAgainstLaying_1 : decode cX5_reasonAgainstLaying 1 = .ok (.getfield 15, 3) := by decide +kernel
theorem dX5_reasonAgainstLaying_4 : decode cX5_reasonAgainstLaying 4 = .ok (.iload_n 1, 1) := by decide +kernel
theorem dX5_reasonAgainstLaying_5 : decode cX5_reasonAgainstLaying 5 = .ok (.invokevirtual 47, 3) := by decide +kernel
theorem dX5_reasonAgainstLaying_8 : decode cX5_reasonAgainstLaying 8 = .ok (.ifCond .eq 5, 3) := by decide +kernel
theorem dX5_reasonAgainstLaying_11 : decode cX5_reasonAgainstLaying 11 = .ok (.iconst 1, 1) := by decide +kernel
theorem dX5_reasonAgainstLaying_12 : decode cX5_reasonAgainstLaying 12 = .ok (.ireturn, 1) := by decide +kernel
theorem dX5_reasonAgainstLaying_13 : decode cX5_reasonAgainstLaying 13 = .ok (.aload_n 0, 1) := by decide +kernel
theorem dX5_reasonAgainstLaying_14 : decode cX5_reasonAgainstLaying 14 = .ok (.iload_n 1, 1) := by decide +kernel
theorem dX5_reasonAgainstLaying_15 : decode cX5_reasonAgainstLaying 15 = .ok (.invokevirtual 38, 3) := by decide +kernel
theorem dX5_reasonAgainstLaying_18 : decode cX5_reasonAgainstLaying 18 = .ok (.iconst (-1), 1) := by decide +kernel
theorem dX5_reasonAgainstLaying_19 : decode cX5_reasonAgainstLaying 19 = .ok (.if_icmp .eq 5, 3) := by decide +kernel
theorem dX5_reasonAgainstLaying_22 : decode cX5_reasonAgainstLaying 22 = .ok (.iconst 2, 1) := by decide +kernel
theorem dX5_reasonAgainstLaying_23 : decode cX5_reasonAgainstLaying 23 = .ok (.ireturn, 1) := by decide +kernel
theorem dX5_reasonAgainstLaying_24 : decode cX5_reasonAgainstLaying 24 = .ok (.aload_n 0, 1) := by decide +kernel
theorem dX5_reasonAgainstLaying_25 : decode cX5_reasonAgainstLaying 25 = .ok (.getfield 31, 3) := by decide +kernel
theorem dX5_reasonAgainstLaying_28 : decode cX5_reasonAgainstLaying 28 = .ok (.bipush 8, 2) := by decide +kernel
theorem dX5_reasonAgainstLaying_30 : decode cX5_reasonAgainstLaying 30 = .ok (.if_icmp .lt 7, 3) := by decide +kernel
theorem dX5_reasonAgainstLaying_33 : decode cX5_reasonAgainstLaying 33 = .ok (.iconst 3, 1) := by decide +kernel
theorem dX5_reasonAgainstLaying_34 : decode cX5_reasonAgainstLaying 34 = .ok (.goto 4, 3) := by decide +kernel
theorem dX5_reasonAgainstLaying_37 : decode cX5_reasonAgainstLaying 37 = .ok (.iconst 0, 1) := by decide +kernel
theorem dX5_reasonAgainstLaying_38 : decode cX5_reasonAgainstLaying 38 = .ok (.ireturn, 1) := by decide +kernel
theorem dX5_causeAgainst_0 : decode cX5_causeAgainst 0 = .ok (.iload_n 2, 1) := by decide +kernel
theorem dX5_causeAgainst_1 : decode cX5_causeAgainst 1 = .ok (.invokestatic 51, 3) := by decide +kernel
theorem dX5_causeAgainst_4 : decode cX5_causeAgainst 4 = .ok (.ifCond .ne 5, 3) := by decide +kernel
theorem dX5_causeAgainst_7 : decode cX5_causeAgainst 7 = .ok (.iconst 1, 1) := by decide +kernel
theorem dX5_causeAgainst_8 : decode cX5_causeAgainst 8 = .ok (.ireturn, 1) := by decide +kernel
theorem dX5_causeAgainst_9 : decode cX5_causeAgainst 9 = .ok (.aload_n 0, 1) := by decide +kernel
theorem dX5_causeAgainst_10 : decode cX5_causeAgainst 10 = .ok (.iload_n 2, 1) := by decide +kernel
theorem dX5_causeAgainst_11 : decode cX5_causeAgainst 11 = .ok (.invokevirtual 38, 3) := by decide +kernel
theorem dX5_causeAgainst_14 : decode cX5_causeAgainst 14 = .ok (.istore_n 3, 1) := by decide +kernel
theorem dX5_causeAgainst_15 : decode cX5_causeAgainst 15 = .ok (.iload_n 3, 1) := by decide +kernel
theorem dX5_causeAgainst_16 : decode cX5_causeAgainst 16 = .ok (.iconst (-1), 1) := by decide +kernel
theorem dX5_causeAgainst_17 : decode cX5_causeAgainst 17 = .ok (.if_icmp .eq 7, 3) := by decide +kernel
theorem dX5_causeAgainst_20 : decode cX5_causeAgainst 20 = .ok (.iconst 1, 1) := by decide +kernel
theorem dX5_causeAgainst_21 : decode cX5_causeAgainst 21 = .ok (.goto 4, 3) := by decide +kernel
theorem dX5_causeAgainst_24 : decode cX5_causeAgainst 24 = .ok (.iconst 0, 1) := by decide +kernel
theorem dX5_causeAgainst_25 : decode cX5_causeAgainst 25 = .ok (.istore 4, 2) := by decide +kernel
theorem dX5_causeAgainst_27 : decode cX5_causeAgainst 27 = .ok (.iload_n 1, 1) := by decide +kernel
theorem dX5_causeAgainst_28 : decode cX5_causeAgainst 28 = .ok (.bipush 108, 2) := by decide +kernel
theorem dX5_causeAgainst_30 : decode cX5_causeAgainst 30 = .ok (.if_icmp .ne 21, 3) := by decide +kernel
theorem dX5_causeAgainst_33 : decode cX5_causeAgainst 33 = .ok (.aload_n 0, 1) := by decide +kernel
theorem dX5_causeAgainst_34 : decode cX5_causeAgainst 34 = .ok (.iload_n 2, 1) := by decide +kernel
theorem dX5_causeAgainst_35 : decode cX5_causeAgainst 35 = .ok (.invokevirtual 54, 3) := by decide +kernel
theorem dX5_causeAgainst_38 : decode cX5_causeAgainst 38 = .ok (.ifCond .ne 7, 3) := by decide +kernel
theorem dX5_causeAgainst_41 : decode cX5_causeAgainst 41 = .ok (.iconst 1, 1) := by decide +kernel
theorem dX5_causeAgainst_42 : decode cX5_causeAgainst 42 = .ok (.goto 4, 3) := by decide +kernel
theorem dX5_causeAgainst_45 : decode cX5_causeAgainst 45 = .ok (.iconst 0, 1) := by decide +kernel
theorem dX5_causeAgainst_46 : decode cX5_causeAgainst 46 = .ok (.istore 4, 2) := by decide +kernel
theorem dX5_causeAgainst_48 : decode cX5_causeAgainst 48 = .ok (.goto 53, 3) := by decide +kernel
theorem dX5_causeAgainst_51 : decode cX5_causeAgainst 51 = .ok (.iload_n 1, 1) := by decide +kernel
theorem dX5_causeAgainst_52 : decode cX5_causeAgainst 52 = .ok (.bipush 109, 2) := by decide +kernel
theorem dX5_causeAgainst_54 : decode cX5_causeAgainst 54 = .ok (.if_icmp .ne 30, 3) := by decide +kernel
theorem dX5_causeAgainst_57 : decode cX5_causeAgainst 57 = .ok (.iload_n 3, 1) := by decide +kernel
theorem dX5_causeAgainst_58 : decode cX5_causeAgainst 58 = .ok (.iconst (-1), 1) := by decide +kernel
theorem dX5_causeAgainst_59 : decode cX5_causeAgainst 59 = .ok (.if_icmp .eq 19, 3) := by decide +kernel
theorem dX5_causeAgainst_62 : decode cX5_causeAgainst 62 = .ok (.iload_n 3, 1) := by decide +kernel
theorem dX5_causeAgainst_63 : decode cX5_causeAgainst 63 = .ok (.aload_n 0, 1) := by decide +kernel
theorem dX5_causeAgainst_64 : decode cX5_causeAgainst 64 = .ok (.getfield 15, 3) := by decide +kernel
theorem dX5_causeAgainst_67 : decode cX5_causeAgainst 67 = .ok (.iload_n 2, 1) := by decide +kernel
theorem dX5_causeAgainst_68 : decode cX5_causeAgainst 68 = .ok (.invokevirtual 57, 3) := by decide +kernel
theorem dX5_causeAgainst_71 : decode cX5_causeAgainst 71 = .ok (.if_icmp .ge 7, 3) := by decide +kernel
theorem dX5_causeAgainst_74 : decode cX5_causeAgainst 74 = .ok (.iconst 1, 1) := by decide +kernel
theorem dX5_causeAgainst_75 : decode cX5_causeAgainst 75 = .ok (.goto 4, 3) := by decide +kernel
theorem dX5_causeAgainst_78 : decode cX5_causeAgainst 78 = .ok (.iconst 0, 1) := by decide +kernel
theorem dX5_causeAgainst_79 : decode cX5_causeAgainst 79 = .ok (.istore 4, 2) := by decide +kernel
theorem dX5_causeAgainst_81 : decode cX5_causeAgainst 81 = .ok (.goto 20, 3) := by decide +kernel
theorem dX5_causeAgainst_84 : decode cX5_causeAgainst 84 = .ok (.iload_n 1, 1) := by decide +kernel
theorem dX5_causeAgainst_85 : decode cX5_causeAgainst 85 = .ok (.bipush 98, 2) := by decide +kernel
theorem dX5_causeAgainst_87 : decode cX5_causeAgainst 87 = .ok (.if_icmp .ne 14, 3) := by decide +kernel
theorem dX5_causeAgainst_90 : decode cX5_causeAgainst 90 = .ok (.iload_n 3, 1) := by decide +kernel
theorem dX5_causeAgainst_91 : decode cX5_causeAgainst 91 = .ok (.ifCond .le 7, 3) := by decide +kernel
theorem dX5_causeAgainst_94 : decode cX5_causeAgainst 94 = .ok (.iconst 1, 1) := by decide +kernel
theorem dX5_causeAgainst_95 : decode cX5_causeAgainst 95 = .ok (.goto 4, 3) := by decide +kernel
theorem dX5_causeAgainst_98 : decode cX5_causeAgainst 98 = .ok (.iconst 0, 1) := by decide +kernel
theorem dX5_causeAgainst_99 : decode cX5_causeAgainst 99 = .ok (.istore 4, 2) := by decide +kernel
theorem dX5_causeAgainst_101 : decode cX5_causeAgainst 101 = .ok (.iload 4, 2) := by decide +kernel
theorem dX5_causeAgainst_103 : decode cX5_causeAgainst 103 = .ok (.ifCond .eq 7, 3) := by decide +kernel
theorem dX5_causeAgainst_106 : decode cX5_causeAgainst 106 = .ok (.iconst 0, 1) := by decide +kernel
theorem dX5_causeAgainst_107 : decode cX5_causeAgainst 107 = .ok (.goto 4, 3) := by decide +kernel
theorem dX5_causeAgainst_110 : decode cX5_causeAgainst 110 = .ok (.iconst 2, 1) := by decide +kernel
theorem dX5_causeAgainst_111 : decode cX5_causeAgainst 111 = .ok (.ireturn, 1) := by decide +kernel
theorem dX5_carryOut_0 : decode cX5_carryOut 0 = .ok (.iload_n 1, 1) := by decide +kernel
theorem dX5_carryOut_1 : decode cX5_carryOut 1 = .ok (.bipush 108, 2) := by decide +kernel
theorem dX5_carryOut_3 : decode cX5_carryOut 3 = .ok (.if_icmp .ne 22, 3) := by decide +kernel
theorem dX5_carryOut_6 : decode cX5_carryOut 6 = .ok (.aload_n 0, 1) := by decide +kernel
theorem dX5_carryOut_7 : decode cX5_carryOut 7 = .ok (.iload_n 2, 1) := by decide +kernel
theorem dX5_carryOut_8 : decode cX5_carryOut 8 = .ok (.iconst 0, 1) := by decide +kernel
theorem dX5_carryOut_9 : decode cX5_carryOut 9 = .ok (.invokevirtual 60, 3) := by decide +kernel
theorem dX5_carryOut_12 : decode cX5_carryOut 12 = .ok (.aload_n 0, 1) := by decide +kernel
theorem dX5_carryOut_13 : decode cX5_carryOut 13 = .ok (.dup, 1) := by decide +kernel
theorem dX5_carryOut_14 : decode cX5_carryOut 14 = .ok (.getfield 31, 3) := by decide +kernel
theorem dX5_carryOut_17 : decode cX5_carryOut 17 = .ok (.iconst 1, 1) := by decide +kernel
theorem dX5_carryOut_18 : decode cX5_carryOut 18 = .ok (.iadd, 1) := by decide +kernel
theorem dX5_carryOut_19 : decode cX5_carryOut 19 = .ok (.putfield 31, 3) := by decide +kernel
theorem dX5_carryOut_22 : decode cX5_carryOut 22 = .ok (.goto 77, 3) := by decide +kernel
theorem dX5_carryOut_25 : decode cX5_carryOut 25 = .ok (.iload_n 1, 1) := by decide +kernel
theorem dX5_carryOut_26 : decode cX5_carryOut 26 = .ok (.bipush 116, 2) := by decide +kernel
theorem dX5_carryOut_28 : decode cX5_carryOut 28 = .ok (.if_icmp .ne 22, 3) := by decide +kernel
theorem dX5_carryOut_31 : decode cX5_carryOut 31 = .ok (.aload_n 0, 1) := by decide +kernel
theorem dX5_carryOut_32 : decode cX5_carryOut 32 = .ok (.iload_n 2, 1) := by decide +kernel
theorem dX5_carryOut_33 : decode cX5_carryOut 33 = .ok (.iconst (-1), 1) := by decide +kernel
theorem dX5_carryOut_34 : decode cX5_carryOut 34 = .ok (.invokevirtual 60, 3) := by decide +kernel
theorem dX5_carryOut_37 : decode cX5_carryOut 37 = .ok (.aload_n 0, 1) := by decide +kernel
theorem dX5_carryOut_38 : decode cX5_carryOut 38 = .ok (.dup, 1) := by decide +kernel
theorem dX5_carryOut_39 : decode cX5_carryOut 39 = .ok (.getfield 31, 3) := by decide +kernel
theorem dX5_carryOut_42 : decode cX5_carryOut 42 = .ok (.iconst 1, 1) := by decide +kernel
theorem dX5_carryOut_43 : decode cX5_carryOut 43 = .ok (.isub, 1) := by decide +kernel
theorem dX5_carryOut_44 : decode cX5_carryOut 44 = .ok (.putfield 31, 3) := by decide +kernel
theorem dX5_carryOut_47 : decode cX5_carryOut 47 = .ok (.goto 52, 3) := by decide +kernel
theorem dX5_carryOut_50 : decode cX5_carryOut 50 = .ok (.iload_n 1, 1) := by decide +kernel
theorem dX5_carryOut_51 : decode cX5_carryOut 51 = .ok (.bipush 109, 2) := by decide +kernel
theorem dX5_carryOut_53 : decode cX5_carryOut 53 = .ok (.if_icmp .ne 28, 3) := by decide +kernel
theorem dX5_carryOut_56 : decode cX5_carryOut 56 = .ok (.aload_n 0, 1) := by decide +kernel
theorem dX5_carryOut_57 : decode cX5_carryOut 57 = .ok (.iload_n 2, 1) := by decide +kernel
theorem dX5_carryOut_58 : decode cX5_carryOut 58 = .ok (.aload_n 0, 1) := by decide +kernel
theorem dX5_carryOut_59 : decode cX5_carryOut 59 = .ok (.iload_n 2, 1) := by decide +kernel
theorem dX5_carryOut_60 : decode cX5_carryOut 60 = .ok (.invokevirtual 38, 3) := by decide +kernel
theorem dX5_carryOut_63 : decode cX5_carryOut 63 = .ok (.iconst 1, 1) := by decide +kernel
theorem dX5_carryOut_64 : decode cX5_carryOut 64 = .ok (.iadd, 1) := by decide +kernel
theorem dX5_carryOut_65 : decode cX5_carryOut 65 = .ok (.invokevirtual 60, 3) := by decide +kernel
theorem dX5_carryOut_68 : decode cX5_carryOut 68 = .ok (.aload_n 0, 1) := by decide +kernel
theorem dX5_carryOut_69 : decode cX5_carryOut 69 = .ok (.dup, 1) := by decide +kernel
theorem dX5_carryOut_70 : decode cX5_carryOut 70 = .ok (.getfield 35, 3) := by decide +kernel
theorem dX5_carryOut_73 : decode cX5_carryOut 73 = .ok (.iconst 1, 1) := by decide +kernel
theorem dX5_carryOut_74 : decode cX5_carryOut 74 = .ok (.iadd, 1) := by decide +kernel
theorem dX5_carryOut_75 : decode cX5_carryOut 75 = .ok (.putfield 35, 3) := by decide +kernel
theorem dX5_carryOut_78 : decode cX5_carryOut 78 = .ok (.goto 21, 3) := by decide +kernel
theorem dX5_carryOut_81 : decode cX5_carryOut 81 = .ok (.iload_n 1, 1) := by decide +kernel
theorem dX5_carryOut_82 : decode cX5_carryOut 82 = .ok (.bipush 98, 2) := by decide +kernel
theorem dX5_carryOut_84 : decode cX5_carryOut 84 = .ok (.if_icmp .ne 15, 3) := by decide +kernel
theorem dX5_carryOut_87 : decode cX5_carryOut 87 = .ok (.aload_n 0, 1) := by decide +kernel
theorem dX5_carryOut_88 : decode cX5_carryOut 88 = .ok (.iload_n 2, 1) := by decide +kernel
theorem dX5_carryOut_89 : decode cX5_carryOut 89 = .ok (.aload_n 0, 1) := by decide +kernel
theorem dX5_carryOut_90 : decode cX5_carryOut 90 = .ok (.iload_n 2, 1) := by decide +kernel
theorem dX5_carryOut_91 : decode cX5_carryOut 91 = .ok (.invokevirtual 38, 3) := by decide +kernel
theorem dX5_carryOut_94 : decode cX5_carryOut 94 = .ok (.iconst 1, 1) := by decide +kernel
theorem dX5_carryOut_95 : decode cX5_carryOut 95 = .ok (.isub, 1) := by decide +kernel
theorem dX5_carryOut_96 : decode cX5_carryOut 96 = .ok (.invokevirtual 60, 3) := by decide +kernel
theorem dX5_carryOut_99 : decode cX5_carryOut 99 = .ok (.return_, 1) := by decide +kernel
theorem dX5_setHeight_0 : decode cX5_setHeight 0 = .ok (.iload_n 1, 1) := by decide +kernel
theorem dX5_setHeight_1 : decode cX5_setHeight 1 = .ok (.ifCond .lt 19, 3) := by decide +kernel
theorem dX5_setHeight_4 : decode cX5_setHeight 4 = .ok (.iload_n 1, 1) := by decide +kernel
theorem dX5_setHeight_5 : decode cX5_setHeight 5 = .ok (.aload_n 0, 1) := by decide +kernel
theorem dX5_setHeight_6 : decode cX5_setHeight 6 = .ok (.getfield 9, 3) := by decide +kernel
theorem dX5_setHeight_9 : decode cX5_setHeight 9 = .ok (.arraylength, 1) := by decide +kernel
theorem dX5_setHeight_10 : decode cX5_setHeight 10 = .ok (.if_icmp .ge 10, 3) := by decide +kernel
theorem dX5_setHeight_13 : decode cX5_setHeight 13 = .ok (.aload_n 0, 1) := by decide +kernel
theorem dX5_setHeight_14 : decode cX5_setHeight 14 = .ok (.getfield 9, 3) := by decide +kernel
theorem dX5_setHeight_17 : decode cX5_setHeight 17 = .ok (.iload_n 1, 1) := by decide +kernel
theorem dX5_setHeight_18 : decode cX5_setHeight 18 = .ok (.iload_n 2, 1) := by decide +kernel
theorem dX5_setHeight_19 : decode cX5_setHeight 19 = .ok (.iastore, 1) := by decide +kernel
theorem dX5_setHeight_20 : decode cX5_setHeight 20 = .ok (.return_, 1) := by decide +kernel
theorem dX6_init_0 : decode cX6_init 0 = .ok (.aload_n 0, 1) := by decide +kernel
theorem dX6_init_1 : decode cX6_init 1 = .ok (.invokespecial 1, 3) := by decide +kernel
theorem dX6_init_4 : decode cX6_init 4 = .ok (.return_, 1) := by decide +kernel
theorem dX6_begin_0 : decode cX6_begin 0 = .ok (.aload_n 0, 1) := by decide +kernel
theorem dX6_begin_1 : decode cX6_begin 1 = .ok (.iload_n 1, 1) := by decide +kernel
theorem dX6_begin_2 : decode cX6_begin 2 = .ok (.putfield 7, 3) := by decide +kernel
theorem dX6_begin_5 : decode cX6_begin 5 = .ok (.aload_n 0, 1) := by decide +kernel
theorem dX6_begin_6 : decode cX6_begin 6 = .ok (.iload_n 1, 1) := by decide +kernel
theorem dX6_begin_7 : decode cX6_begin 7 = .ok (.invokestatic 13, 3) := by decide +kernel
theorem dX6_begin_10 : decode cX6_begin 10 = .ok (.putfield 19, 3) := by decide +kernel
theorem dX6_begin_13 : decode cX6_begin 13 = .ok (.aload_n 0, 1) := by decide +kernel
theorem dX6_begin_14 : decode cX6_begin 14 = .ok (.iconst 0, 1) := by decide +kernel
theorem dX6_begin_15 : decode cX6_begin 15 = .ok (.putfield 22, 3) := by decide +kernel
theorem dX6_begin_18 : decode cX6_begin 18 = .ok (.aload_n 0, 1) := by decide +kernel
theorem dX6_begin_19 : decode cX6_begin 19 = .ok (.iconst 1, 1) := by decide +kernel
theorem dX6_begin_20 : decode cX6_begin 20 = .ok (.putfield 25, 3) := by decide +kernel
theorem dX6_begin_23 : decode cX6_begin 23 = .ok (.aload_n 0, 1) := by decide +kernel
theorem dX6_begin_24 : decode cX6_begin 24 = .ok (.aload_n 0, 1) := by decide +kernel
theorem dX6_begin_25 : decode cX6_begin 25 = .ok (.getfield 19, 3) := by decide +kernel
theorem dX6_begin_28 : decode cX6_begin 28 = .ok (.putfield 28, 3) := by decide +kernel
theorem dX6_begin_31 : decode cX6_begin 31 = .ok (.return_, 1) := by decide +kernel
theorem dX6_next_0 : decode cX6_next 0 = .ok (.aload_n 0, 1) := by decide +kernel
theorem dX6_next_1 : decode cX6_next 1 = .ok (.getfield 25, 3) := by decide +kernel
theorem dX6_next_4 : decode cX6_next 4 = .ok (.ifCond .ne 4, 3) := by decide +kernel
theorem dX6_next_7 : decode cX6_next 7 = .ok (.return_, 1) := by decide +kernel
theorem dX6_next_8 : decode cX6_next 8 = .ok (.aload_n 0, 1) := by decide +kernel
theorem dX6_next_9 : decode cX6_next 9 = .ok (.aload_n 0, 1) := by decide +kernel
theorem dX6_next_10 : decode cX6_next 10 = .ok (.getfield 25, 3) := by decide +kernel
theorem dX6_next_13 : decode cX6_next 13 = .ok (.aload_n 0, 1) := by decide +kernel
theorem dX6_next_14 : decode cX6_next 14 = .ok (.getfield 28, 3) := by decide +kernel
theorem dX6_next_17 : decode cX6_next 17 = .ok (.imul, 1) := by decide +kernel
theorem dX6_next_18 : decode cX6_next 18 = .ok (.aload_n 0, 1) := by decide +kernel
theorem dX6_next_19 : decode cX6_next 19 = .ok (.getfield 22, 3) := by decide +kernel
theorem dX6_next_22 : decode cX6_next 22 = .ok (.isub, 1) := by decide +kernel
theorem dX6_next_23 : decode cX6_next 23 = .ok (.putfield 22, 3) := by decide +kernel
theorem dX6_next_26 : decode cX6_next 26 = .ok (.aload_n 0, 1) := by decide +kernel
theorem dX6_next_27 : decode cX6_next 27 = .ok (.aload_n 0, 1) := by decide +kernel
theorem dX6_next_28 : decode cX6_next 28 = .ok (.getfield 7, 3) := by decide +kernel
theorem dX6_next_31 : decode cX6_next 31 = .ok (.aload_n 0, 1) := by decide +kernel
theorem dX6_next_32 : decode cX6_next 32 = .ok (.getfield 22, 3) := by decide +kernel
theorem dX6_next_35 : decode cX6_next 35 = .ok (.aload_n 0, 1) := by decide +kernel
theorem dX6_next_36 : decode cX6_next 36 = .ok (.getfield 22, 3) := by decide +kernel
theorem dX6_next_39 : decode cX6_next 39 = .ok (.imul, 1) := by decide +kernel
theorem dX6_next_40 : decode cX6_next 40 = .ok (.isub, 1) := by decide +kernel
theorem dX6_next_41 : decode cX6_next 41 = .ok (.aload_n 0, 1) := by decide +kernel
theorem dX6_next_42 : decode cX6_next 42 = .ok (.getfield 25, 3) := by decide +kernel
theorem dX6_next_45 : decode cX6_next 45 = .ok (.idiv, 1) := by decide +kernel
theorem dX6_next_46 : decode cX6_next 46 = .ok (.putfield 25, 3) := by decide +kernel
theorem dX6_next_49 : decode cX6_next 49 = .ok (.aload_n 0, 1) := by decide +kernel
theorem dX6_next_50 : decode cX6_next 50 = .ok (.getfield 25, 3) := by decide +kernel
theorem dX6_next_53 : decode cX6_next 53 = .ok (.ifCond .eq 21, 3) := by decide +kernel
theorem dX6_next_56 : decode cX6_next 56 = .ok (.aload_n 0, 1) := by decide +kernel
theorem dX6_next_57 : decode cX6_next 57 = .ok (.aload_n 0, 1) := by decide +kernel
theorem dX6_next_58 : decode cX6_next 58 = .ok (.getfield 19, 3) := by decide +kernel
theorem dX6_next_61 : decode cX6_next 61 = .ok (.aload_n 0, 1) := by decide +kernel
theorem dX6_next_62 : decode cX6_next 62 = .ok (.getfield 22, 3) := by decide +kernel
theorem dX6_next_65 : decode cX6_next 65 = .ok (.iadd, 1) := by decide +kernel
theorem dX6_next_66 : decode cX6_next 66 = .ok (.aload_n 0, 1) := by decide +kernel
theorem dX6_next_67 : decode cX6_next 67 = .ok (.getfield 25, 3) := by decide +kernel
theorem dX6_next_70 : decode cX6_next 70 = .ok (.idiv, 1) := by decide +kernel
theorem dX6_next_71 : decode cX6_next 71 = .ok (.putfield 28, 3) := by decide +kernel
theorem dX6_next_74 : decode cX6_next 74 = .ok (.return_, 1) := by decide +kernel
theorem dX6_isSquare_0 : decode cX6_isSquare 0 = .ok (.aload_n 0, 1) := by decide +kernel
theorem dX6_isSquare_1 : decode cX6_isSquare 1 = .ok (.getfield 19, 3) := by decide +kernel
theorem dX6_isSquare_4 : decode cX6_isSquare 4 = .ok (.aload_n 0, 1) := by decide +kernel
theorem dX6_isSquare_5 : decode cX6_isSquare 5 = .ok (.getfield 19, 3) := by decide +kernel
theorem dX6_isSquare_8 : decode cX6_isSquare 8 = .ok (.imul, 1) := by decide +kernel
theorem dX6_isSquare_9 : decode cX6_isSquare 9 = .ok (.aload_n 0, 1) := by decide +kernel
theorem dX6_isSquare_10 : decode cX6_isSquare 10 = .ok (.getfield 7, 3) := by decide +kernel
theorem dX6_isSquare_13 : decode cX6_isSquare 13 = .ok (.if_icmp .ne 7, 3) := by decide +kernel
theorem dX6_isSquare_16 : decode cX6_isSquare 16 = .ok (.iconst 1, 1) := by decide +kernel
theorem dX6_isSquare_17 : decode cX6_isSquare 17 = .ok (.goto 4, 3) := by decide +kernel
theorem dX6_isSquare_20 : decode cX6_isSquare 20 = .ok (.iconst 0, 1) := by decide +kernel
theorem dX6_isSquare_21 : decode cX6_isSquare 21 = .ok (.ireturn, 1) := by decide +kernel
theorem dX6_endsPeriod_0 : decode cX6_endsPeriod 0 = .ok (.aload_n 0, 1) := by decide +kernel
theorem dX6_endsPeriod_1 : decode cX6_endsPeriod 1 = .ok (.getfield 28, 3) := by decide +kernel
theorem dX6_endsPeriod_4 : decode cX6_endsPeriod 4 = .ok (.iconst 2, 1) := by decide +kernel
theorem dX6_endsPeriod_5 : decode cX6_endsPeriod 5 = .ok (.aload_n 0, 1) := by decide +kernel
theorem dX6_endsPeriod_6 : decode cX6_endsPeriod 6 = .ok (.getfield 19, 3) := by decide +kernel
theorem dX6_endsPeriod_9 : decode cX6_endsPeriod 9 = .ok (.imul, 1) := by decide +kernel
theorem dX6_endsPeriod_10 : decode cX6_endsPeriod 10 = .ok (.if_icmp .ne 7, 3) := by decide +kernel
theorem dX6_endsPeriod_13 : decode cX6_endsPeriod 13 = .ok (.iconst 1, 1) := by decide +kernel
theorem dX6_endsPeriod_14 : decode cX6_endsPeriod 14 = .ok (.goto 4, 3) := by decide +kernel
theorem dX6_endsPeriod_17 : decode cX6_endsPeriod 17 = .ok (.iconst 0, 1) := by decide +kernel
theorem dX6_endsPeriod_18 : decode cX6_endsPeriod 18 = .ok (.ireturn, 1) := by decide +kernel
theorem dX7_init_0 : decode cX7_init 0 = .ok (.aload_n 0, 1) := by decide +kernel
theorem dX7_init_1 : decode cX7_init 1 = .ok (.invokespecial 3, 3) := by decide +kernel
theorem dX7_init_4 : decode cX7_init 4 = .ok (.aload_n 0, 1) := by decide +kernel
theorem dX7_init_5 : decode cX7_init 5 = .ok (.bipush 60, 2) := by decide +kernel
theorem dX7_init_7 : decode cX7_init 7 = .ok (.newarray .char, 2) := by decide +kernel
theorem dX7_init_9 : decode cX7_init 9 = .ok (.putfield 9, 3) := by decide +kernel
theorem dX7_init_12 : decode cX7_init 12 = .ok (.return_, 1) := by decide +kernel
theorem dX7_append_0 : decode cX7_append 0 = .ok (.aload_n 0, 1) := by decide +kernel
theorem dX7_append_1 : decode cX7_append 1 = .ok (.getfield 15, 3) := by decide +kernel
theorem dX7_append_4 : decode cX7_append 4 = .ok (.aload_n 0, 1) := by decide +kernel
theorem dX7_append_5 : decode cX7_append 5 = .ok (.getfield 9, 3) := by decide +kernel
theorem dX7_append_8 : decode cX7_append 8 = .ok (.arraylength, 1) := by decide +kernel
theorem dX7_append_9 : decode cX7_append 9 = .ok (.if_icmp .lt 5, 3) := by decide +kernel
theorem dX7_append_12 : decode cX7_append 12 = .ok (.iconst 0, 1) := by decide +kernel
theorem dX7_append_13 : decode cX7_append 13 = .ok (.ireturn, 1) := by decide +kernel
theorem dX7_append_14 : decode cX7_append 14 = .ok (.aload_n 0, 1) := by decide +kernel
theorem dX7_append_15 : decode cX7_append 15 = .ok (.getfield 9, 3) := by decide +kernel
theorem dX7_append_18 : decode cX7_append 18 = .ok (.aload_n 0, 1) := by decide +kernel
theorem dX7_append_19 : decode cX7_append 19 = .ok (.getfield 15, 3) := by decide +kernel
theorem dX7_append_22 : decode cX7_append 22 = .ok (.iload_n 1, 1) := by decide +kernel
theorem dX7_append_23 : decode cX7_append 23 = .ok (.castore, 1) := by decide +kernel
theorem dX7_append_24 : decode cX7_append 24 = .ok (.aload_n 0, 1) := by decide +kernel
theorem dX7_append_25 : decode cX7_append 25 = .ok (.dup, 1) := by decide +kernel
theorem dX7_append_26 : decode cX7_append 26 = .ok (.getfield 15, 3) := by decide +kernel
theorem dX7_append_29 : decode cX7_append 29 = .ok (.iconst 1, 1) := by decide +kernel
theorem dX7_append_30 : decode cX7_append 30 = .ok (.iadd, 1) := by decide +kernel
theorem dX7_append_31 : decode cX7_append 31 = .ok (.putfield 15, 3) := by decide +kernel
theorem dX7_append_34 : decode cX7_append 34 = .ok (.iconst 1, 1) := by decide +kernel
theorem dX7_append_35 : decode cX7_append 35 = .ok (.ireturn, 1) := by decide +kernel
theorem dX7_findsFault_0 : decode cX7_findsFault 0 = .ok (.aload_n 2, 1) := by decide +kernel
theorem dX7_findsFault_1 : decode cX7_findsFault 1 = .ok (.aload_n 1, 1) := by decide +kernel
theorem dX7_findsFault_2 : decode cX7_findsFault 2 = .ok (.invokevirtual 19, 3) := by decide +kernel
theorem dX7_findsFault_5 : decode cX7_findsFault 5 = .ok (.aload_n 0, 1) := by decide +kernel
theorem dX7_findsFault_6 : decode cX7_findsFault 6 = .ok (.iconst 0, 1) := by decide +kernel
theorem dX7_findsFault_7 : decode cX7_findsFault 7 = .ok (.putfield 25, 3) := by decide +kernel
theorem dX7_findsFault_10 : decode cX7_findsFault 10 = .ok (.aload_n 0, 1) := by decide +kernel
theorem dX7_findsFault_11 : decode cX7_findsFault 11 = .ok (.iconst 0, 1) := by decide +kernel
theorem dX7_findsFault_12 : decode cX7_findsFault 12 = .ok (.putfield 28, 3) := by decide +kernel
theorem dX7_findsFault_15 : decode cX7_findsFault 15 = .ok (.aload_n 0, 1) := by decide +kernel
theorem dX7_findsFault_16 : decode cX7_findsFault 16 = .ok (.iconst 0, 1) := by decide +kernel
theorem dX7_findsFault_17 : decode cX7_findsFault 17 = .ok (.putfield 31, 3) := by decide +kernel
theorem dX7_findsFault_20 : decode cX7_findsFault 20 = .ok (.aload_n 0, 1) := by decide +kernel
theorem dX7_findsFault_21 : decode cX7_findsFault 21 = .ok (.iconst 0, 1) := by decide +kernel
theorem dX7_findsFault_22 : decode cX7_findsFault 22 = .ok (.putfield 34, 3) := by decide +kernel
theorem dX7_findsFault_25 : decode cX7_findsFault 25 = .ok (.iconst 0, 1) := by decide +kernel
theorem dX7_findsFault_26 : decode cX7_findsFault 26 = .ok (.istore_n 3, 1) := by decide +kernel
theorem dX7_findsFault_27 : decode cX7_findsFault 27 = .ok (.iload_n 3, 1) := by decide +kernel
theorem dX7_findsFault_28 : decode cX7_findsFault 28 = .ok (.bipush 60, 2) := by decide +kernel
theorem dX7_findsFault_30 : decode cX7_findsFault 30 = .ok (.if_icmp .ge 32, 3) := by decide +kernel
theorem dX7_findsFault_33 : decode cX7_findsFault 33 = .ok (.aload_n 0, 1) := by decide +kernel
theorem dX7_findsFault_34 : decode cX7_findsFault 34 = .ok (.getfield 28, 3) := by decide +kernel
theorem dX7_findsFault_37 : decode cX7_findsFault 37 = .ok (.aload_n 0, 1) := by decide +kernel
theorem dX7_findsFault_38 : decode cX7_findsFault 38 = .ok (.getfield 15, 3) := by decide +kernel
theorem dX7_findsFault_41 : decode cX7_findsFault 41 = .ok (.if_icmp .ge 21, 3) := by decide +kernel
theorem dX7_findsFault_44 : decode cX7_findsFault 44 = .ok (.aload_n 0, 1) := by decide +kernel
theorem dX7_findsFault_45 : decode cX7_findsFault 45 = .ok (.getfield 31, 3) := by decide +kernel
theorem dX7_findsFault_48 : decode cX7_findsFault 48 = .ok (.ifCond .ne 14, 3) := by decide +kernel
theorem dX7_findsFault_51 : decode cX7_findsFault 51 = .ok (.aload_n 0, 1) := by decide +kernel
theorem dX7_findsFault_52 : decode cX7_findsFault 52 = .ok (.aload_n 2, 1) := by decide +kernel
theorem dX7_findsFault_53 : decode cX7_findsFault 53 = .ok (.invokevirtual 37, 3) := by decide +kernel
theorem dX7_findsFault_56 : decode cX7_findsFault 56 = .ok (.iinc 3 1, 3) := by decide +kernel
theorem dX7_findsFault_59 : decode cX7_findsFault 59 = .ok (.goto (-32), 3) := by decide +kernel
theorem dX7_findsFault_62 : decode cX7_findsFault 62 = .ok (.aload_n 0, 1) := by decide +kernel
theorem dX7_findsFault_63 : decode cX7_findsFault 63 = .ok (.getfield 31, 3) := by decide +kernel
theorem dX7_findsFault_66 : decode cX7_findsFault 66 = .ok (.ifCond .eq 7, 3) := by decide +kernel
theorem dX7_findsFault_69 : decode cX7_findsFault 69 = .ok (.iconst 1, 1) := by decide +kernel
theorem dX7_findsFault_70 : decode cX7_findsFault 70 = .ok (.goto 4, 3) := by decide +kernel
theorem dX7_findsFault_73 : decode cX7_findsFault 73 = .ok (.iconst 0, 1) := by decide +kernel
theorem dX7_findsFault_74 : decode cX7_findsFault 74 = .ok (.ireturn, 1) := by decide +kernel
theorem dX7_readOrder_0 : decode cX7_readOrder 0 = .ok (.aload_n 0, 1) := by decide +kernel
theorem dX7_readOrder_1 : decode cX7_readOrder 1 = .ok (.aload_n 0, 1) := by decide +kernel
theorem dX7_readOrder_2 : decode cX7_readOrder 2 = .ok (.getfield 28, 3) := by decide +kernel
theorem dX7_readOrder_5 : decode cX7_readOrder 5 = .ok (.iconst 2, 1) := by decide +kernel
theorem dX7_readOrder_6 : decode cX7_readOrder 6 = .ok (.iadd, 1) := by decide +kernel
theorem dX7_readOrder_7 : decode cX7_readOrder 7 = .ok (.invokevirtual 40, 3) := by decide +kernel
theorem dX7_readOrder_10 : decode cX7_readOrder 10 = .ok (.ifCond .eq 7, 3) := by decide +kernel
theorem dX7_readOrder_13 : decode cX7_readOrder 13 = .ok (.iconst 2, 1) := by decide +kernel
theorem dX7_readOrder_14 : decode cX7_readOrder 14 = .ok (.goto 4, 3) := by decide +kernel
theorem dX7_readOrder_17 : decode cX7_readOrder 17 = .ok (.iconst 1, 1) := by decide +kernel
theorem dX7_readOrder_18 : decode cX7_readOrder 18 = .ok (.istore_n 2, 1) := by decide +kernel
theorem dX7_readOrder_19 : decode cX7_readOrder 19 = .ok (.aload_n 0, 1) := by decide +kernel
theorem dX7_readOrder_20 : decode cX7_readOrder 20 = .ok (.iload_n 2, 1) := by decide +kernel
theorem dX7_readOrder_21 : decode cX7_readOrder 21 = .ok (.invokevirtual 44, 3) := by decide +kernel
theorem dX7_readOrder_24 : decode cX7_readOrder 24 = .ok (.istore_n 3, 1) := by decide +kernel
theorem dX7_readOrder_25 : decode cX7_readOrder 25 = .ok (.iload_n 3, 1) := by decide +kernel
theorem dX7_readOrder_26 : decode cX7_readOrder 26 = .ok (.iconst (-1), 1) := by decide +kernel
theorem dX7_readOrder_27 : decode cX7_readOrder 27 = .ok (.if_icmp .eq 14, 3) := by decide +kernel
theorem dX7_readOrder_30 : decode cX7_readOrder 30 = .ok (.aload_n 0, 1) := by decide +kernel
theorem dX7_readOrder_31 : decode cX7_readOrder 31 = .ok (.iconst 1, 1) := by decide +kernel
theorem dX7_readOrder_32 : decode cX7_readOrder 32 = .ok (.putfield 31, 3) := by decide +kernel
theorem dX7_readOrder_35 : decode cX7_readOrder 35 = .ok (.aload_n 0, 1) := by decide +kernel
theorem dX7_readOrder_36 : decode cX7_readOrder 36 = .ok (.iload_n 3, 1) := by decide +kernel
theorem dX7_readOrder_37 : decode cX7_readOrder 37 = .ok (.putfield 34, 3) := by decide +kernel
theorem dX7_readOrder_40 : decode cX7_readOrder 40 = .ok (.return_, 1) := by decide +kernel
theorem dX7_readOrder_41 : decode cX7_readOrder 41 = .ok (.aload_n 0, 1) := by decide +kernel
theorem dX7_readOrder_42 : decode cX7_readOrder 42 = .ok (.aload_n 0, 1) := by decide +kernel
theorem dX7_readOrder_43 : decode cX7_readOrder 43 = .ok (.getfield 28, 3) := by decide +kernel
theorem dX7_readOrder_46 : decode cX7_readOrder 46 = .ok (.invokevirtual 48, 3) := by decide +kernel
theorem dX7_readOrder_49 : decode cX7_readOrder 49 = .ok (.istore 4, 2) := by decide +kernel
theorem dX7_readOrder_51 : decode cX7_readOrder 51 = .ok (.aload_n 0, 1) := by decide +kernel
theorem dX7_readOrder_52 : decode cX7_readOrder 52 = .ok (.aload_n 0, 1) := by decide +kernel
theorem dX7_readOrder_53 : decode cX7_readOrder 53 = .ok (.getfield 28, 3) := by decide +kernel
theorem dX7_readOrder_56 : decode cX7_readOrder 56 = .ok (.iconst 1, 1) := by decide +kernel
theorem dX7_readOrder_57 : decode cX7_readOrder 57 = .ok (.iadd, 1) := by decide +kernel
theorem dX7_readOrder_58 : decode cX7_readOrder 58 = .ok (.iload_n 2, 1) := by decide +kernel
theorem dX7_readOrder_59 : decode cX7_readOrder 59 = .ok (.invokevirtual 52, 3) := by decide +kernel
theorem dX7_readOrder_62 : decode cX7_readOrder 62 = .ok (.istore 5, 2) := by decide +kernel
theorem dX7_readOrder_64 : decode cX7_readOrder 64 = .ok (.aload_n 0, 1) := by decide +kernel
theorem dX7_readOrder_65 : decode cX7_readOrder 65 = .ok (.aload_n 1, 1) := by decide +kernel
theorem dX7_readOrder_66 : decode cX7_readOrder 66 = .ok (.iload 4, 2) := by decide +kernel
theorem dX7_readOrder_68 : decode cX7_readOrder 68 = .ok (.iload 5, 2) := by decide +kernel
theorem dX7_readOrder_70 : decode cX7_readOrder 70 = .ok (.invokevirtual 56, 3) := by decide +kernel
theorem dX7_readOrder_73 : decode cX7_readOrder 73 = .ok (.putfield 34, 3) := by decide +kernel
theorem dX7_readOrder_76 : decode cX7_readOrder 76 = .ok (.aload_n 0, 1) := by decide +kernel
theorem dX7_readOrder_77 : decode cX7_readOrder 77 = .ok (.getfield 34, 3) := by decide +kernel
theorem dX7_readOrder_80 : decode cX7_readOrder 80 = .ok (.ifCond .eq 9, 3) := by decide +kernel
theorem dX7_readOrder_83 : decode cX7_readOrder 83 = .ok (.aload_n 0, 1) := by decide +kernel
theorem dX7_readOrder_84 : decode cX7_readOrder 84 = .ok (.iconst 2, 1) := by decide +kernel
theorem dX7_readOrder_85 : decode cX7_readOrder 85 = .ok (.putfield 31, 3) := by decide +kernel
theorem dX7_readOrder_88 : decode cX7_readOrder 88 = .ok (.return_, 1) := by decide +kernel
theorem dX7_readOrder_89 : decode cX7_readOrder 89 = .ok (.aload_n 1, 1) := by decide +kernel
theorem dX7_readOrder_90 : decode cX7_readOrder 90 = .ok (.iload 4, 2) := by decide +kernel
theorem dX7_readOrder_92 : decode cX7_readOrder 92 = .ok (.iload 5, 2) := by decide +kernel
theorem dX7_readOrder_94 : decode cX7_readOrder 94 = .ok (.invokevirtual 60, 3) := by decide +kernel
theorem dX7_readOrder_97 : decode cX7_readOrder 97 = .ok (.aload_n 0, 1) := by decide +kernel
theorem dX7_readOrder_98 : decode cX7_readOrder 98 = .ok (.dup, 1) := by decide +kernel
theorem dX7_readOrder_99 : decode cX7_readOrder 99 = .ok (.getfield 25, 3) := by decide +kernel
theorem dX7_readOrder_102 : decode cX7_readOrder 102 = .ok (.iconst 1, 1) := by decide +kernel
theorem dX7_readOrder_103 : decode cX7_readOrder 103 = .ok (.iadd, 1) := by decide +kernel
theorem dX7_readOrder_104 : decode cX7_readOrder 104 = .ok (.putfield 25, 3) := by decide +kernel
theorem dX7_readOrder_107 : decode cX7_readOrder 107 = .ok (.aload_n 0, 1) := by decide +kernel
theorem dX7_readOrder_108 : decode cX7_readOrder 108 = .ok (.dup, 1) := by decide +kernel
theorem dX7_readOrder_109 : decode cX7_readOrder 109 = .ok (.getfield 28, 3) := by decide +kernel
theorem dX7_readOrder_112 : decode cX7_readOrder 112 = .ok (.iload_n 2, 1) := by decide +kernel
theorem dX7_readOrder_113 : decode cX7_readOrder 113 = .ok (.iconst 2, 1) := by decide +kernel
theorem dX7_readOrder_114 : decode cX7_readOrder 114 = .ok (.iadd, 1) := by decide +kernel
theorem dX7_readOrder_115 : decode cX7_readOrder 115 = .ok (.iadd, 1) := by decide +kernel
theorem dX7_readOrder_116 : decode cX7_readOrder 116 = .ok (.putfield 28, 3) := by decide +kernel
theorem dX7_readOrder_119 : decode cX7_readOrder 119 = .ok (.return_, 1) := by decide +kernel
theorem dX7_breaksOffAt_0 : decode cX7_breaksOffAt 0 = .ok (.aload_n 0, 1) := by decide +kernel
theorem dX7_breaksOffAt_1 : decode cX7_breaksOffAt 1 = .ok (.aload_n 0, 1) := by decide +kernel
theorem dX7_breaksOffAt_2 : decode cX7_breaksOffAt 2 = .ok (.getfield 28, 3) := by decide +kernel
theorem dX7_breaksOffAt_5 : decode cX7_breaksOffAt 5 = .ok (.invokevirtual 48, 3) := by decide +kernel
theorem dX7_breaksOffAt_8 : decode cX7_breaksOffAt 8 = .ok (.invokestatic 64, 3) := by decide +kernel
theorem dX7_breaksOffAt_11 : decode cX7_breaksOffAt 11 = .ok (.ifCond .ne 5, 3) := by decide +kernel
theorem dX7_breaksOffAt_14 : decode cX7_breaksOffAt 14 = .ok (.iconst 0, 1) := by decide +kernel
theorem dX7_breaksOffAt_15 : decode cX7_breaksOffAt 15 = .ok (.ireturn, 1) := by decide +kernel
theorem dX7_breaksOffAt_16 : decode cX7_breaksOffAt 16 = .ok (.aload_n 0, 1) := by decide +kernel
theorem dX7_breaksOffAt_17 : decode cX7_breaksOffAt 17 = .ok (.aload_n 0, 1) := by decide +kernel
theorem dX7_breaksOffAt_18 : decode cX7_breaksOffAt 18 = .ok (.getfield 28, 3) := by decide +kernel
theorem dX7_breaksOffAt_21 : decode cX7_breaksOffAt 21 = .ok (.iconst 1, 1) := by decide +kernel
theorem dX7_breaksOffAt_22 : decode cX7_breaksOffAt 22 = .ok (.iadd, 1) := by decide +kernel
theorem dX7_breaksOffAt_23 : decode cX7_breaksOffAt 23 = .ok (.invokevirtual 40, 3) := by decide +kernel
theorem dX7_breaksOffAt_26 : decode cX7_breaksOffAt 26 = .ok (.ifCond .ne 5, 3) := by decide +kernel
theorem dX7_breaksOffAt_29 : decode cX7_breaksOffAt 29 = .ok (.iconst 1, 1) := by decide +kernel
theorem dX7_breaksOffAt_30 : decode cX7_breaksOffAt 30 = .ok (.ireturn, 1) := by decide +kernel
theorem dX7_breaksOffAt_31 : decode cX7_breaksOffAt 31 = .ok (.aload_n 0, 1) := by decide +kernel
theorem dX7_breaksOffAt_32 : decode cX7_breaksOffAt 32 = .ok (.aload_n 0, 1) := by decide +kernel
theorem dX7_breaksOffAt_33 : decode cX7_breaksOffAt 33 = .ok (.getfield 28, 3) := by decide +kernel
theorem dX7_breaksOffAt_36 : decode cX7_breaksOffAt 36 = .ok (.iconst 1, 1) := by decide +kernel
theorem dX7_breaksOffAt_37 : decode cX7_breaksOffAt 37 = .ok (.iadd, 1) := by decide +kernel
theorem dX7_breaksOffAt_38 : decode cX7_breaksOffAt 38 = .ok (.iload_n 1, 1) := by decide +kernel
theorem dX7_breaksOffAt_39 : decode cX7_breaksOffAt 39 = .ok (.iadd, 1) := by decide +kernel
theorem dX7_breaksOffAt_40 : decode cX7_breaksOffAt 40 = .ok (.invokevirtual 48, 3) := by decide +kernel
theorem dX7_breaksOffAt_43 : decode cX7_breaksOffAt 43 = .ok (.bipush 59, 2) := by decide +kernel
theorem dX7_breaksOffAt_45 : decode cX7_breaksOffAt 45 = .ok (.if_icmp .ne 7, 3) := by decide +kernel
theorem dX7_breaksOffAt_48 : decode cX7_breaksOffAt 48 = .ok (.iconst (-1), 1) := by decide +kernel
theorem dX7_breaksOffAt_49 : decode cX7_breaksOffAt 49 = .ok (.goto 6, 3) := by decide +kernel
theorem dX7_breaksOffAt_52 : decode cX7_breaksOffAt 52 = .ok (.iconst 1, 1) := by decide +kernel
theorem dX7_breaksOffAt_53 : decode cX7_breaksOffAt 53 = .ok (.iload_n 1, 1) := by decide +kernel
theorem dX7_breaksOffAt_54 : decode cX7_breaksOffAt 54 = .ok (.iadd, 1) := by decide +kernel
theorem dX7_breaksOffAt_55 : decode cX7_breaksOffAt 55 = .ok (.ireturn, 1) := by decide +kernel
theorem dX7_numberAt_0 : decode cX7_numberAt 0 = .ok (.iconst 0, 1) := by decide +kernel
theorem dX7_numberAt_1 : decode cX7_numberAt 1 = .ok (.istore_n 3, 1) := by decide +kernel
theorem dX7_numberAt_2 : decode cX7_numberAt 2 = .ok (.iload_n 1, 1) := by decide +kernel
theorem dX7_numberAt_3 : decode cX7_numberAt 3 = .ok (.istore 4, 2) := by decide +kernel
theorem dX7_numberAt_5 : decode cX7_numberAt 5 = .ok (.iload 4, 2) := by decide +kernel
theorem dX7_numberAt_7 : decode cX7_numberAt 7 = .ok (.iload_n 1, 1) := by decide +kernel
theorem dX7_numberAt_8 : decode cX7_numberAt 8 = .ok (.iload_n 2, 1) := by decide +kernel
theorem dX7_numberAt_9 : decode cX7_numberAt 9 = .ok (.iadd, 1) := by decide +kernel
theorem dX7_numberAt_10 : decode cX7_numberAt 10 = .ok (.if_icmp .ge 24, 3) := by decide +kernel
theorem dX7_numberAt_13 : decode cX7_numberAt 13 = .ok (.iload_n 3, 1) := by decide +kernel
theorem dX7_numberAt_14 : decode cX7_numberAt 14 = .ok (.bipush 10, 2) := by decide +kernel
theorem dX7_numberAt_16 : decode cX7_numberAt 16 = .ok (.imul, 1) := by decide +kernel
theorem dX7_numberAt_17 : decode cX7_numberAt 17 = .ok (.aload_n 0, 1) := by decide +kernel
theorem dX7_numberAt_18 : decode cX7_numberAt 18 = .ok (.iload 4, 2) := by decide +kernel
theorem dX7_numberAt_20 : decode cX7_numberAt 20 = .ok (.invokevirtual 48, 3) := by decide +kernel
theorem dX7_numberAt_23 : decode cX7_numberAt 23 = .ok (.bipush 48, 2) := by decide +kernel
theorem dX7_numberAt_25 : decode cX7_numberAt 25 = .ok (.isub, 1) := by decide +kernel
theorem dX7_numberAt_26 : decode cX7_numberAt 26 = .ok (.iadd, 1) := by decide +kernel
theorem dX7_numberAt_27 : decode cX7_numberAt 27 = .ok (.istore_n 3, 1) := by decide +kernel
theorem dX7_numberAt_28 : decode cX7_numberAt 28 = .ok (.iinc 4 1, 3) := by decide +kernel
theorem dX7_numberAt_31 : decode cX7_numberAt 31 = .ok (.goto (-26), 3) := by decide +kernel
theorem dX7_numberAt_34 : decode cX7_numberAt 34 = .ok (.iload_n 3, 1) := by decide +kernel
theorem dX7_numberAt_35 : decode cX7_numberAt 35 = .ok (.ireturn, 1) := by decide +kernel
theorem dX7_characterAt_0 : decode cX7_characterAt 0 = .ok (.iload_n 1, 1) := by decide +kernel
theorem dX7_characterAt_1 : decode cX7_characterAt 1 = .ok (.ifCond .lt 29, 3) := by decide +kernel
theorem dX7_characterAt_4 : decode cX7_characterAt 4 = .ok (.iload_n 1, 1) := by decide +kernel
theorem dX7_characterAt_5 : decode cX7_characterAt 5 = .ok (.aload_n 0, 1) := by decide +kernel
theorem dX7_characterAt_6 : decode cX7_characterAt 6 = .ok (.getfield 15, 3) := by decide +kernel
theorem dX7_characterAt_9 : decode cX7_characterAt 9 = .ok (.if_icmp .ge 21, 3) := by decide +kernel
theorem dX7_characterAt_12 : decode cX7_characterAt 12 = .ok (.iload_n 1, 1) := by decide +kernel
theorem dX7_characterAt_13 : decode cX7_characterAt 13 = .ok (.aload_n 0, 1) := by decide +kernel
theorem dX7_characterAt_14 : decode cX7_characterAt 14 = .ok (.getfield 9, 3) := by decide +kernel
theorem dX7_characterAt_17 : decode cX7_characterAt 17 = .ok (.arraylength, 1) := by decide +kernel
theorem dX7_characterAt_18 : decode cX7_characterAt 18 = .ok (.if_icmp .ge 12, 3) := by decide +kernel
theorem dX7_characterAt_21 : decode cX7_characterAt 21 = .ok (.aload_n 0, 1) := by decide +kernel
theorem dX7_characterAt_22 : decode cX7_characterAt 22 = .ok (.getfield 9, 3) := by decide +kernel
theorem dX7_characterAt_25 : decode cX7_characterAt 25 = .ok (.iload_n 1, 1) := by decide +kernel
theorem dX7_characterAt_26 : decode cX7_characterAt 26 = .ok (.caload, 1) := by decide +kernel
theorem dX7_characterAt_27 : decode cX7_characterAt 27 = .ok (.goto 4, 3) := by decide +kernel
theorem dX7_characterAt_30 : decode cX7_characterAt 30 = .ok (.iconst 0, 1) := by decide +kernel
theorem dX7_characterAt_31 : decode cX7_characterAt 31 = .ok (.ireturn, 1) := by decide +kernel
theorem dX7_isDigit_0 : decode cX7_isDigit 0 = .ok (.aload_n 0, 1) := by decide +kernel
theorem dX7_isDigit_1 : decode cX7_isDigit 1 = .ok (.iload_n 1, 1) := by decide +kernel
theorem dX7_isDigit_2 : decode cX7_isDigit 2 = .ok (.invokevirtual 48, 3) := by decide +kernel
theorem dX7_isDigit_5 : decode cX7_isDigit 5 = .ok (.istore_n 2, 1) := by decide +kernel
theorem dX7_isDigit_6 : decode cX7_isDigit 6 = .ok (.iload_n 2, 1) := by decide +kernel
theorem dX7_isDigit_7 : decode cX7_isDigit 7 = .ok (.bipush 48, 2) := by decide +kernel
theorem dX7_isDigit_9 : decode cX7_isDigit 9 = .ok (.if_icmp .lt 13, 3) := by decide +kernel
theorem dX7_isDigit_12 : decode cX7_isDigit 12 = .ok (.iload_n 2, 1) := by decide +kernel
theorem dX7_isDigit_13 : decode cX7_isDigit 13 = .ok (.bipush 57, 2) := by decide +kernel
theorem dX7_isDigit_15 : decode cX7_isDigit 15 = .ok (.if_icmp .gt 7, 3) := by decide +kernel
theorem dX7_isDigit_18 : decode cX7_isDigit 18 = .ok (.iconst 1, 1) := by decide +kernel
theorem dX7_isDigit_19 : decode cX7_isDigit 19 = .ok (.goto 4, 3) := by decide +kernel
theorem dX7_isDigit_22 : decode cX7_isDigit 22 = .ok (.iconst 0, 1) := by decide +kernel
theorem dX7_isDigit_23 : decode cX7_isDigit 23 = .ok (.ireturn, 1) := by decide +kernel
theorem dX7_isOrder_0 : decode cX7_isOrder 0 = .ok (.iload_n 0, 1) := by decide +kernel
theorem dX7_isOrder_1 : decode cX7_isOrder 1 = .ok (.bipush 108, 2) := by decide +kernel
theorem dX7_isOrder_3 : decode cX7_isOrder 3 = .ok (.if_icmp .eq 21, 3) := by decide +kernel
theorem dX7_isOrder_6 : decode cX7_isOrder 6 = .ok (.iload_n 0, 1) := by decide +kernel
theorem dX7_isOrder_7 : decode cX7_isOrder 7 = .ok (.bipush 116, 2) := by decide +kernel
theorem dX7_isOrder_9 : decode cX7_isOrder 9 = .ok (.if_icmp .eq 15, 3) := by decide +kernel
theorem dX7_isOrder_12 : decode cX7_isOrder 12 = .ok (.iload_n 0, 1) := by decide +kernel
theorem dX7_isOrder_13 : decode cX7_isOrder 13 = .ok (.bipush 109, 2) := by decide +kernel
theorem dX7_isOrder_15 : decode cX7_isOrder 15 = .ok (.if_icmp .eq 9, 3) := by decide +kernel
theorem dX7_isOrder_18 : decode cX7_isOrder 18 = .ok (.iload_n 0, 1) := by decide +kernel
theorem dX7_isOrder_19 : decode cX7_isOrder 19 = .ok (.bipush 98, 2) := by decide +kernel
theorem dX7_isOrder_21 : decode cX7_isOrder 21 = .ok (.if_icmp .ne 7, 3) := by decide +kernel
theorem dX7_isOrder_24 : decode cX7_isOrder 24 = .ok (.iconst 1, 1) := by decide +kernel
theorem dX7_isOrder_25 : decode cX7_isOrder 25 = .ok (.goto 4, 3) := by decide +kernel
theorem dX7_isOrder_28 : decode cX7_isOrder 28 = .ok (.iconst 0, 1) := by decide +kernel
theorem dX7_isOrder_29 : decode cX7_isOrder 29 = .ok (.ireturn, 1) := by decide +kernel
theorem dX8_init_0 : decode cX8_init 0 = .ok (.aload_n 0, 1) := by decide +kernel
theorem dX8_init_1 : decode cX8_init 1 = .ok (.invokespecial 3, 3) := by decide +kernel
theorem dX8_init_4 : decode cX8_init 4 = .ok (.aload_n 0, 1) := by decide +kernel
theorem dX8_init_5 : decode cX8_init 5 = .ok (.new 9, 3) := by decide +kernel
theorem dX8_init_8 : decode cX8_init 8 = .ok (.dup, 1) := by decide +kernel
theorem dX8_init_9 : decode cX8_init 9 = .ok (.invokespecial 11, 3) := by decide +kernel
theorem dX8_init_12 : decode cX8_init 12 = .ok (.putfield 12, 3) := by decide +kernel
theorem dX8_init_15 : decode cX8_init 15 = .ok (.aload_n 0, 1) := by decide +kernel
theorem dX8_init_16 : decode cX8_init 16 = .ok (.new 16, 3) := by decide +kernel
theorem dX8_init_19 : decode cX8_init 19 = .ok (.dup, 1) := by decide +kernel
theorem dX8_init_20 : decode cX8_init 20 = .ok (.invokespecial 18, 3) := by decide +kernel
theorem dX8_init_23 : decode cX8_init 23 = .ok (.putfield 19, 3) := by decide +kernel
theorem dX8_init_26 : decode cX8_init 26 = .ok (.aload_n 0, 1) := by decide +kernel
theorem dX8_init_27 : decode cX8_init 27 = .ok (.new 23, 3) := by decide +kernel
theorem dX8_init_30 : decode cX8_init 30 = .ok (.dup, 1) := by decide +kernel
theorem dX8_init_31 : decode cX8_init 31 = .ok (.aload_n 0, 1) := by decide +kernel
theorem dX8_init_32 : decode cX8_init 32 = .ok (.getfield 12, 3) := by decide +kernel
theorem dX8_init_35 : decode cX8_init 35 = .ok (.invokespecial 25, 3) := by decide +kernel
theorem dX8_init_38 : decode cX8_init 38 = .ok (.putfield 28, 3) := by decide +kernel
theorem dX8_init_41 : decode cX8_init 41 = .ok (.aload_n 0, 1) := by decide +kernel
theorem dX8_init_42 : decode cX8_init 42 = .ok (.new 32, 3) := by decide +kernel
theorem dX8_init_45 : decode cX8_init 45 = .ok (.dup, 1) := by decide +kernel
theorem dX8_init_46 : decode cX8_init 46 = .ok (.aload_n 0, 1) := by decide +kernel
theorem dX8_init_47 : decode cX8_init 47 = .ok (.getfield 12, 3) := by decide +kernel
theorem dX8_init_50 : decode cX8_init 50 = .ok (.invokespecial 34, 3) := by decide +kernel
theorem dX8_init_53 : decode cX8_init 53 = .ok (.putfield 35, 3) := by decide +kernel
theorem dX8_init_56 : decode cX8_init 56 = .ok (.aload_n 0, 1) := by decide +kernel
theorem dX8_init_57 : decode cX8_init 57 = .ok (.new 39, 3) := by decide +kernel
theorem dX8_init_60 : decode cX8_init 60 = .ok (.dup, 1) := by decide +kernel
theorem dX8_init_61 : decode cX8_init 61 = .ok (.aload_n 0, 1) := by decide +kernel
theorem dX8_init_62 : decode cX8_init 62 = .ok (.getfield 12, 3) := by decide +kernel
theorem dX8_init_65 : decode cX8_init 65 = .ok (.invokespecial 41, 3) := by decide +kernel
theorem dX8_init_68 : decode cX8_init 68 = .ok (.putfield 42, 3) := by decide +kernel
theorem dX8_init_71 : decode cX8_init 71 = .ok (.aload_n 0, 1) := by decide +kernel
theorem dX8_init_72 : decode cX8_init 72 = .ok (.new 39, 3) := by decide +kernel
theorem dX8_init_75 : decode cX8_init 75 = .ok (.dup, 1) := by decide +kernel
theorem dX8_init_76 : decode cX8_init 76 = .ok (.aload_n 0, 1) := by decide +kernel
theorem dX8_init_77 : decode cX8_init 77 = .ok (.getfield 12, 3) := by decide +kernel
theorem dX8_init_80 : decode cX8_init 80 = .ok (.invokespecial 41, 3) := by decide +kernel
theorem dX8_init_83 : decode cX8_init 83 = .ok (.putfield 46, 3) := by decide +kernel
theorem dX8_init_86 : decode cX8_init 86 = .ok (.aload_n 0, 1) := by decide +kernel
theorem dX8_init_87 : decode cX8_init 87 = .ok (.new 39, 3) := by decide +kernel
theorem dX8_init_90 : decode cX8_init 90 = .ok (.dup, 1) := by decide +kernel
theorem dX8_init_91 : decode cX8_init 91 = .ok (.aload_n 0, 1) := by decide +kernel
theorem dX8_init_92 : decode cX8_init 92 = .ok (.getfield 12, 3) := by decide +kernel
theorem dX8_init_95 : decode cX8_init 95 = .ok (.invokespecial 41, 3) := by decide +kernel
theorem dX8_init_98 : decode cX8_init 98 = .ok (.putfield 49, 3) := by decide +kernel
theorem dX8_init_101 : decode cX8_init 101 = .ok (.aload_n 0, 1) := by decide +kernel
theorem dX8_init_102 : decode cX8_init 102 = .ok (.new 52, 3) := by decide +kernel
theorem dX8_init_105 : decode cX8_init 105 = .ok (.dup, 1) := by decide +kernel
theorem dX8_init_106 : decode cX8_init 106 = .ok (.aload_n 0, 1) := by decide +kernel
theorem dX8_init_107 : decode cX8_init 107 = .ok (.getfield 12, 3) := by decide +kernel
theorem dX8_init_110 : decode cX8_init 110 = .ok (.invokespecial 54, 3) := by decide +kernel
theorem dX8_init_113 : decode cX8_init 113 = .ok (.putfield 55, 3) := by decide +kernel
theorem dX8_init_116 : decode cX8_init 116 = .ok (.aload_n 0, 1) := by decide +kernel
theorem dX8_init_117 : decode cX8_init 117 = .ok (.new 59, 3) := by decide +kernel
theorem dX8_init_120 : decode cX8_init 120 = .ok (.dup, 1) := by decide +kernel
theorem dX8_init_121 : decode cX8_init 121 = .ok (.invokespecial 61, 3) := by decide +kernel
theorem dX8_init_124 : decode cX8_init 124 = .ok (.putfield 62, 3) := by decide +kernel
theorem dX8_init_127 : decode cX8_init 127 = .ok (.return_, 1) := by decide +kernel
theorem dX8_lay_0 : decode cX8_lay 0 = .ok (.aload_n 0, 1) := by decide +kernel
theorem dX8_lay_1 : decode cX8_lay 1 = .ok (.bipush 108, 2) := by decide +kernel
theorem dX8_lay_3 : decode cX8_lay 3 = .ok (.iload_n 1, 1) := by decide +kernel
theorem dX8_lay_4 : decode cX8_lay 4 = .ok (.invokevirtual 66, 3) := by decide +kernel
theorem dX8_lay_7 : decode cX8_lay 7 = .ok (.aload_n 0, 1) := by decide +kernel
theorem dX8_lay_8 : decode cX8_lay 8 = .ok (.getfield 42, 3) := by decide +kernel
theorem dX8_lay_11 : decode cX8_lay 11 = .ok (.getfield 70, 3) := by decide +kernel
theorem dX8_lay_14 : decode cX8_lay 14 = .ok (.ireturn, 1) := by decide +kernel
theorem dX8_take_0 : decode cX8_take 0 = .ok (.aload_n 0, 1) := by decide +kernel
theorem dX8_take_1 : decode cX8_take 1 = .ok (.getfield 42, 3) := by decide +kernel
theorem dX8_take_4 : decode cX8_take 4 = .ok (.iload_n 1, 1) := by decide +kernel
theorem dX8_take_5 : decode cX8_take 5 = .ok (.invokevirtual 74, 3) := by decide +kernel
theorem dX8_take_8 : decode cX8_take 8 = .ok (.istore_n 2, 1) := by decide +kernel
theorem dX8_take_9 : decode cX8_take 9 = .ok (.aload_n 0, 1) := by decide +kernel
theorem dX8_take_10 : decode cX8_take 10 = .ok (.bipush 116, 2) := by decide +kernel
theorem dX8_take_12 : decode cX8_take 12 = .ok (.iload_n 1, 1) := by decide +kernel
theorem dX8_take_13 : decode cX8_take 13 = .ok (.invokevirtual 66, 3) := by decide +kernel
theorem dX8_take_16 : decode cX8_take 16 = .ok (.iload_n 2, 1) := by decide +kernel
theorem dX8_take_17 : decode cX8_take 17 = .ok (.ireturn, 1) := by decide +kernel
theorem dX8_mill_0 : decode cX8_mill 0 = .ok (.aload_n 0, 1) := by decide +kernel
theorem dX8_mill_1 : decode cX8_mill 1 = .ok (.bipush 109, 2) := by decide +kernel
theorem dX8_mill_3 : decode cX8_mill 3 = .ok (.iload_n 1, 1) := by decide +kernel
theorem dX8_mill_4 : decode cX8_mill 4 = .ok (.invokevirtual 66, 3) := by decide +kernel
theorem dX8_mill_7 : decode cX8_mill 7 = .ok (.aload_n 0, 1) := by decide +kernel
theorem dX8_mill_8 : decode cX8_mill 8 = .ok (.iload_n 1, 1) := by decide +kernel
theorem dX8_mill_9 : decode cX8_mill 9 = .ok (.invokevirtual 78, 3) := by decide +kernel
theorem dX8_mill_12 : decode cX8_mill 12 = .ok (.getfield 82, 3) := by decide +kernel
theorem dX8_mill_15 : decode cX8_mill 15 = .ok (.lreturn, 1) := by decide +kernel
theorem dX8_millBack_0 : decode cX8_millBack 0 = .ok (.aload_n 0, 1) := by decide +kernel
theorem dX8_millBack_1 : decode cX8_millBack 1 = .ok (.bipush 98, 2) := by decide +kernel
theorem dX8_millBack_3 : decode cX8_millBack 3 = .ok (.iload_n 1, 1) := by decide +kernel
theorem dX8_millBack_4 : decode cX8_millBack 4 = .ok (.invokevirtual 66, 3) := by decide +kernel
theorem dX8_millBack_7 : decode cX8_millBack 7 = .ok (.aload_n 0, 1) := by decide +kernel
theorem dX8_millBack_8 : decode cX8_millBack 8 = .ok (.iload_n 1, 1) := by decide +kernel
theorem dX8_millBack_9 : decode cX8_millBack 9 = .ok (.invokevirtual 78, 3) := by decide +kernel
theorem dX8_millBack_12 : decode cX8_millBack 12 = .ok (.getfield 82, 3) := by decide +kernel
theorem dX8_millBack_15 : decode cX8_millBack 15 = .ok (.lreturn, 1) := by decide +kernel
theorem dX8_whyNot_0 : decode cX8_whyNot 0 = .ok (.iload_n 1, 1) := by decide +kernel
theorem dX8_whyNot_1 : decode cX8_whyNot 1 = .ok (.invokestatic 86, 3) := by decide +kernel
theorem dX8_whyNot_4 : decode cX8_whyNot 4 = .ok (.aload_n 0, 1) := by decide +kernel
theorem dX8_whyNot_5 : decode cX8_whyNot 5 = .ok (.getfield 42, 3) := by decide +kernel
theorem dX8_whyNot_8 : decode cX8_whyNot 8 = .ok (.iload_n 1, 1) := by decide +kernel
theorem dX8_whyNot_9 : decode cX8_whyNot 9 = .ok (.invokevirtual 90, 3) := by decide +kernel
theorem dX8_whyNot_12 : decode cX8_whyNot 12 = .ok (.ireturn, 1) := by decide +kernel
theorem dX8_periodOf_0 : decode cX8_periodOf 0 = .ok (.aload_n 0, 1) := by decide +kernel
theorem dX8_periodOf_1 : decode cX8_periodOf 1 = .ok (.iload_n 1, 1) := by decide +kernel
theorem dX8_periodOf_2 : decode cX8_periodOf 2 = .ok (.invokevirtual 93, 3) := by decide +kernel
theorem dX8_periodOf_5 : decode cX8_periodOf 5 = .ok (.aload_n 0, 1) := by decide +kernel
theorem dX8_periodOf_6 : decode cX8_periodOf 6 = .ok (.getfield 12, 3) := by decide +kernel
theorem dX8_periodOf_9 : decode cX8_periodOf 9 = .ok (.iload_n 1, 1) := by decide +kernel
theorem dX8_periodOf_10 : decode cX8_periodOf 10 = .ok (.invokevirtual 96, 3) := by decide +kernel
theorem dX8_periodOf_13 : decode cX8_periodOf 13 = .ok (.ireturn, 1) := by decide +kernel
theorem dX8_termAt_0 : decode cX8_termAt 0 = .ok (.iload_n 2, 1) := by decide +kernel
theorem dX8_termAt_1 : decode cX8_termAt 1 = .ok (.ifCond .lt 9, 3) := by decide +kernel
theorem dX8_termAt_4 : decode cX8_termAt 4 = .ok (.iload_n 2, 1) := by decide +kernel
theorem dX8_termAt_5 : decode cX8_termAt 5 = .ok (.bipush 99, 2) := by decide +kernel
theorem dX8_termAt_7 : decode cX8_termAt 7 = .ok (.if_icmp .le 13, 3) := by decide +kernel
theorem dX8_termAt_10 : decode cX8_termAt 10 = .ok (.new 99, 3) := by decide +kernel
theorem dX8_termAt_13 : decode cX8_termAt 13 = .ok (.dup, 1) := by decide +kernel
theorem dX8_termAt_14 : decode cX8_termAt 14 = .ok (.ldc 101, 2) := by decide +kernel
theorem dX8_termAt_16 : decode cX8_termAt 16 = .ok (.invokespecial 103, 3) := by decide +kernel
theorem dX8_termAt_19 : decode cX8_termAt 19 = .ok (.athrow, 1) := by decide +kernel
theorem dX8_termAt_20 : decode cX8_termAt 20 = .ok (.aload_n 0, 1) := by decide +kernel
theorem dX8_termAt_21 : decode cX8_termAt 21 = .ok (.iload_n 1, 1) := by decide +kernel
theorem dX8_termAt_22 : decode cX8_termAt 22 = .ok (.invokevirtual 93, 3) := by decide +kernel
theorem dX8_termAt_25 : decode cX8_termAt 25 = .ok (.aload_n 0, 1) := by decide +kernel
theorem dX8_termAt_26 : decode cX8_termAt 26 = .ok (.getfield 12, 3) := by decide +kernel
theorem dX8_termAt_29 : decode cX8_termAt 29 = .ok (.iload_n 1, 1) := by decide +kernel
theorem dX8_termAt_30 : decode cX8_termAt 30 = .ok (.iload_n 2, 1) := by decide +kernel
theorem dX8_termAt_31 : decode cX8_termAt 31 = .ok (.invokevirtual 106, 3) := by decide +kernel
theorem dX8_termAt_34 : decode cX8_termAt 34 = .ok (.ireturn, 1) := by decide +kernel
theorem dX8_unitX_0 : decode cX8_unitX 0 = .ok (.aload_n 0, 1) := by decide +kernel
theorem dX8_unitX_1 : decode cX8_unitX 1 = .ok (.iload_n 1, 1) := by decide +kernel
theorem dX8_unitX_2 : decode cX8_unitX 2 = .ok (.invokevirtual 93, 3) := by decide +kernel
theorem dX8_unitX_5 : decode cX8_unitX 5 = .ok (.aload_n 0, 1) := by decide +kernel
theorem dX8_unitX_6 : decode cX8_unitX 6 = .ok (.getfield 12, 3) := by decide +kernel
theorem dX8_unitX_9 : decode cX8_unitX 9 = .ok (.iload_n 1, 1) := by decide +kernel
theorem dX8_unitX_10 : decode cX8_unitX 10 = .ok (.invokevirtual 110, 3) := by decide +kernel
theorem dX8_unitX_13 : decode cX8_unitX 13 = .ok (.ireturn, 1) := by decide +kernel
theorem dX8_unitY_0 : decode cX8_unitY 0 = .ok (.aload_n 0, 1) := by decide +kernel
theorem dX8_unitY_1 : decode cX8_unitY 1 = .ok (.iload_n 1, 1) := by decide +kernel
theorem dX8_unitY_2 : decode cX8_unitY 2 = .ok (.invokevirtual 93, 3) := by decide +kernel
theorem dX8_unitY_5 : decode cX8_unitY 5 = .ok (.aload_n 0, 1) := by decide +kernel
theorem dX8_unitY_6 : decode cX8_unitY 6 = .ok (.getfield 12, 3) := by decide +kernel
theorem dX8_unitY_9 : decode cX8_unitY 9 = .ok (.iload_n 1, 1) := by decide +kernel
theorem dX8_unitY_10 : decode cX8_unitY 10 = .ok (.invokevirtual 113, 3) := by decide +kernel
theorem dX8_unitY_13 : decode cX8_unitY 13 = .ok (.ireturn, 1) := by decide +kernel
theorem dX8_leastY_0 : decode cX8_leastY 0 = .ok (.aload_n 0, 1) := by decide +kernel
theorem dX8_leastY_1 : decode cX8_leastY 1 = .ok (.iload_n 1, 1) := by decide +kernel
theorem dX8_leastY_2 : decode cX8_leastY 2 = .ok (.invokevirtual 93, 3) := by decide +kernel
theorem dX8_leastY_5 : decode cX8_leastY 5 = .ok (.aload_n 0, 1) := by decide +kernel
theorem dX8_leastY_6 : decode cX8_leastY 6 = .ok (.getfield 12, 3) := by decide +kernel
theorem dX8_leastY_9 : decode cX8_leastY 9 = .ok (.iload_n 1, 1) := by decide +kernel
theorem dX8_leastY_10 : decode cX8_leastY 10 = .ok (.invokevirtual 110, 3) := by decide +kernel
theorem dX8_leastY_13 : decode cX8_leastY 13 = .ok (.istore_n 2, 1) := by decide +kernel
theorem dX8_leastY_14 : decode cX8_leastY 14 = .ok (.aload_n 0, 1) := by decide +kernel
theorem dX8_leastY_15 : decode cX8_leastY 15 = .ok (.getfield 12, 3) := by decide +kernel
theorem dX8_leastY_18 : decode cX8_leastY 18 = .ok (.iload_n 1, 1) := by decide +kernel
theorem dX8_leastY_19 : decode cX8_leastY 19 = .ok (.invokevirtual 113, 3) := by decide +kernel
theorem dX8_leastY_22 : decode cX8_leastY 22 = .ok (.istore_n 3, 1) := by decide +kernel
theorem dX8_leastY_23 : decode cX8_leastY 23 = .ok (.aload_n 0, 1) := by decide +kernel
theorem dX8_leastY_24 : decode cX8_leastY 24 = .ok (.getfield 12, 3) := by decide +kernel
theorem dX8_leastY_27 : decode cX8_leastY 27 = .ok (.iload_n 1, 1) := by decide +kernel
theorem dX8_leastY_28 : decode cX8_leastY 28 = .ok (.invokevirtual 116, 3) := by decide +kernel
theorem dX8_leastY_31 : decode cX8_leastY 31 = .ok (.iconst 1, 1) := by decide +kernel
theorem dX8_leastY_32 : decode cX8_leastY 32 = .ok (.if_icmp .ne 7, 3) := by decide +kernel
theorem dX8_leastY_35 : decode cX8_leastY 35 = .ok (.iload_n 3, 1) := by decide +kernel
theorem dX8_leastY_36 : decode cX8_leastY 36 = .ok (.goto 8, 3) := by decide +kernel
theorem dX8_leastY_39 : decode cX8_leastY 39 = .ok (.iconst 2, 1) := by decide +kernel
theorem dX8_leastY_40 : decode cX8_leastY 40 = .ok (.iload_n 2, 1) := by decide +kernel
theorem dX8_leastY_41 : decode cX8_leastY 41 = .ok (.imul, 1) := by decide +kernel
theorem dX8_leastY_42 : decode cX8_leastY 42 = .ok (.iload_n 3, 1) := by decide +kernel
theorem dX8_leastY_43 : decode cX8_leastY 43 = .ok (.imul, 1) := by decide +kernel
theorem dX8_leastY_44 : decode cX8_leastY 44 = .ok (.ireturn, 1) := by decide +kernel
theorem dX8_leastYBySearch_0 : decode cX8_leastYBySearch 0 = .ok (.aload_n 0, 1) := by decide +kernel
theorem dX8_leastYBySearch_1 : decode cX8_leastYBySearch 1 = .ok (.iload_n 1, 1) := by decide +kernel
theorem dX8_leastYBySearch_2 : decode cX8_leastYBySearch 2 = .ok (.invokevirtual 93, 3) := by decide +kernel
theorem dX8_leastYBySearch_5 : decode cX8_leastYBySearch 5 = .ok (.iload_n 1, 1) := by decide +kernel
theorem dX8_leastYBySearch_6 : decode cX8_leastYBySearch 6 = .ok (.invokestatic 119, 3) := by decide +kernel
theorem dX8_leastYBySearch_9 : decode cX8_leastYBySearch 9 = .ok (.ireturn, 1) := by decide +kernel
theorem dX8_stones_0 : decode cX8_stones 0 = .ok (.aload_n 0, 1) := by decide +kernel
theorem dX8_stones_1 : decode cX8_stones 1 = .ok (.getfield 42, 3) := by decide +kernel
theorem dX8_stones_4 : decode cX8_stones 4 = .ok (.getfield 70, 3) := by decide +kernel
theorem dX8_stones_7 : decode cX8_stones 7 = .ok (.ireturn, 1) := by decide +kernel
theorem dX8_isLaid_0 : decode cX8_isLaid 0 = .ok (.iload_n 1, 1) := by decide +kernel
theorem dX8_isLaid_1 : decode cX8_isLaid 1 = .ok (.invokestatic 86, 3) := by decide +kernel
theorem dX8_isLaid_4 : decode cX8_isLaid 4 = .ok (.aload_n 0, 1) := by decide +kernel
theorem dX8_isLaid_5 : decode cX8_isLaid 5 = .ok (.getfield 42, 3) := by decide +kernel
theorem dX8_isLaid_8 : decode cX8_isLaid 8 = .ok (.iload_n 1, 1) := by decide +kernel
theorem dX8_isLaid_9 : decode cX8_isLaid 9 = .ok (.invokevirtual 122, 3) := by decide +kernel
theorem dX8_isLaid_12 : decode cX8_isLaid 12 = .ok (.ireturn, 1) := by decide +kernel
theorem dX8_stoneFrom_0 : decode cX8_stoneFrom 0 = .ok (.iload_n 1, 1) := by decide +kernel
theorem dX8_stoneFrom_1 : decode cX8_stoneFrom 1 = .ok (.invokestatic 86, 3) := by decide +kernel
theorem dX8_stoneFrom_4 : decode cX8_stoneFrom 4 = .ok (.iload_n 1, 1) := by decide +kernel
theorem dX8_stoneFrom_5 : decode cX8_stoneFrom 5 = .ok (.istore_n 2, 1) := by decide +kernel
theorem dX8_stoneFrom_6 : decode cX8_stoneFrom 6 = .ok (.iload_n 2, 1) := by decide +kernel
theorem dX8_stoneFrom_7 : decode cX8_stoneFrom 7 = .ok (.bipush 60, 2) := by decide +kernel
theorem dX8_stoneFrom_9 : decode cX8_stoneFrom 9 = .ok (.if_icmp .gt 22, 3) := by decide +kernel
theorem dX8_stoneFrom_12 : decode cX8_stoneFrom 12 = .ok (.aload_n 0, 1) := by decide +kernel
theorem dX8_stoneFrom_13 : decode cX8_stoneFrom 13 = .ok (.getfield 42, 3) := by decide +kernel
theorem dX8_stoneFrom_16 : decode cX8_stoneFrom 16 = .ok (.iload_n 2, 1) := by decide +kernel
theorem dX8_stoneFrom_17 : decode cX8_stoneFrom 17 = .ok (.invokevirtual 122, 3) := by decide +kernel
theorem dX8_stoneFrom_20 : decode cX8_stoneFrom 20 = .ok (.ifCond .eq 5, 3) := by decide +kernel
theorem dX8_stoneFrom_23 : decode cX8_stoneFrom 23 = .ok (.iload_n 2, 1) := by decide +kernel
theorem dX8_stoneFrom_24 : decode cX8_stoneFrom 24 = .ok (.ireturn, 1) := by decide +kernel
theorem dX8_stoneFrom_25 : decode cX8_stoneFrom 25 = .ok (.iinc 2 1, 3) := by decide +kernel
theorem dX8_stoneFrom_28 : decode cX8_stoneFrom 28 = .ok (.goto (-22), 3) := by decide +kernel
theorem dX8_stoneFrom_31 : decode cX8_stoneFrom 31 = .ok (.new 126, 3) := by decide +kernel
theorem dX8_stoneFrom_34 : decode cX8_stoneFrom 34 = .ok (.dup, 1) := by decide +kernel
theorem dX8_stoneFrom_35 : decode cX8_stoneFrom 35 = .ok (.ldc 128, 2) := by decide +kernel
theorem dX8_stoneFrom_37 : decode cX8_stoneFrom 37 = .ok (.invokespecial 130, 3) := by decide +kernel
theorem dX8_stoneFrom_40 : decode cX8_stoneFrom 40 = .ok (.athrow, 1) := by decide +kernel
theorem dX8_powerOf_0 : decode cX8_powerOf 0 = .ok (.aload_n 0, 1) := by decide +kernel
theorem dX8_powerOf_1 : decode cX8_powerOf 1 = .ok (.iload_n 1, 1) := by decide +kernel
theorem dX8_powerOf_2 : decode cX8_powerOf 2 = .ok (.invokevirtual 131, 3) := by decide +kernel
theorem dX8_powerOf_5 : decode cX8_powerOf 5 = .ok (.aload_n 0, 1) := by decide +kernel
theorem dX8_powerOf_6 : decode cX8_powerOf 6 = .ok (.getfield 42, 3) := by decide +kernel
theorem dX8_powerOf_9 : decode cX8_powerOf 9 = .ok (.iload_n 1, 1) := by decide +kernel
theorem dX8_powerOf_10 : decode cX8_powerOf 10 = .ok (.invokevirtual 74, 3) := by decide +kernel
theorem dX8_powerOf_13 : decode cX8_powerOf 13 = .ok (.ireturn, 1) := by decide +kernel
theorem dX8_xOf_0 : decode cX8_xOf 0 = .ok (.aload_n 0, 1) := by decide +kernel
theorem dX8_xOf_1 : decode cX8_xOf 1 = .ok (.iload_n 1, 1) := by decide +kernel
theorem dX8_xOf_2 : decode cX8_xOf 2 = .ok (.invokevirtual 131, 3) := by decide +kernel
theorem dX8_xOf_5 : decode cX8_xOf 5 = .ok (.aload_n 0, 1) := by decide +kernel
theorem dX8_xOf_6 : decode cX8_xOf 6 = .ok (.iload_n 1, 1) := by decide +kernel
theorem dX8_xOf_7 : decode cX8_xOf 7 = .ok (.invokevirtual 78, 3) := by decide +kernel
theorem dX8_xOf_10 : decode cX8_xOf 10 = .ok (.getfield 82, 3) := by decide +kernel
theorem dX8_xOf_13 : decode cX8_xOf 13 = .ok (.lreturn, 1) := by decide +kernel
theorem dX8_yOf_0 : decode cX8_yOf 0 = .ok (.aload_n 0, 1) := by decide +kernel
theorem dX8_yOf_1 : decode cX8_yOf 1 = .ok (.iload_n 1, 1) := by decide +kernel
theorem dX8_yOf_2 : decode cX8_yOf 2 = .ok (.invokevirtual 131, 3) := by decide +kernel
theorem dX8_yOf_5 : decode cX8_yOf 5 = .ok (.aload_n 0, 1) := by decide +kernel
theorem dX8_yOf_6 : decode cX8_yOf 6 = .ok (.iload_n 1, 1) := by decide +kernel
theorem dX8_yOf_7 : decode cX8_yOf 7 = .ok (.invokevirtual 78, 3) := by decide +kernel
theorem dX8_yOf_10 : decode cX8_yOf 10 = .ok (.getfield 134, 3) := by decide +kernel
theorem dX8_yOf_13 : decode cX8_yOf 13 = .ok (.lreturn, 1) := by decide +kernel
theorem dX8_signOf_0 : decode cX8_signOf 0 = .ok (.aload_n 0, 1) := by decide +kernel
theorem dX8_signOf_1 : decode cX8_signOf 1 = .ok (.iload_n 1, 1) := by decide +kernel
theorem dX8_signOf_2 : decode cX8_signOf 2 = .ok (.invokevirtual 131, 3) := by decide +kernel
theorem dX8_signOf_5 : decode cX8_signOf 5 = .ok (.aload_n 0, 1) := by decide +kernel
theorem dX8_signOf_6 : decode cX8_signOf 6 = .ok (.getfield 42, 3) := by decide +kernel
theorem dX8_signOf_9 : decode cX8_signOf 9 = .ok (.iload_n 1, 1) := by decide +kernel
theorem dX8_signOf_10 : decode cX8_signOf 10 = .ok (.invokevirtual 137, 3) := by decide +kernel
theorem dX8_signOf_13 : decode cX8_signOf 13 = .ok (.ireturn, 1) := by decide +kernel
theorem dX8_signByRemainders_0 : decode cX8_signByRemainders 0 = .ok (.aload_n 0, 1) := by decide +kernel
theorem dX8_signByRemainders_1 : decode cX8_signByRemainders 1 = .ok (.iload_n 1, 1) := by decide +kernel
theorem dX8_signByRemainders_2 : decode cX8_signByRemainders 2 = .ok (.invokevirtual 131, 3) := by decide +kernel
theorem dX8_signByRemainders_5 : decode cX8_signByRemainders 5 = .ok (.aload_n 0, 1) := by decide +kernel
theorem dX8_signByRemainders_6 : decode cX8_signByRemainders 6 = .ok (.iload_n 1, 1) := by decide +kernel
theorem dX8_signByRemainders_7 : decode cX8_signByRemainders 7 = .ok (.invokevirtual 78, 3) := by decide +kernel
theorem dX8_signByRemainders_10 : decode cX8_signByRemainders 10 = .ok (.astore_n 2, 1) := by decide +kernel
theorem dX8_signByRemainders_11 : decode cX8_signByRemainders 11 = .ok (.aload_n 2, 1) := by decide +kernel
theorem dX8_signByRemainders_12 : decode cX8_signByRemainders 12 = .ok (.getfield 82, 3) := by decide +kernel
theorem dX8_signByRemainders_15 : decode cX8_signByRemainders 15 = .ok (.ldc2_w 140, 3) := by decide +kernel
theorem dX8_signByRemainders_18 : decode cX8_signByRemainders 18 = .ok (.lrem, 1) := by decide +kernel
theorem dX8_signByRemainders_19 : decode cX8_signByRemainders 19 = .ok (.lstore_n 3, 1) := by decide +kernel
theorem dX8_signByRemainders_20 : decode cX8_signByRemainders 20 = .ok (.aload_n 2, 1) := by decide +kernel
theorem dX8_signByRemainders_21 : decode cX8_signByRemainders 21 = .ok (.getfield 134, 3) := by decide +kernel
theorem dX8_signByRemainders_24 : decode cX8_signByRemainders 24 = .ok (.ldc2_w 140, 3) := by decide +kernel
theorem dX8_signByRemainders_27 : decode cX8_signByRemainders 27 = .ok (.lrem, 1) := by decide +kernel
theorem dX8_signByRemainders_28 : decode cX8_signByRemainders 28 = .ok (.lstore 5, 2) := by decide +kernel
theorem dX8_signByRemainders_30 : decode cX8_signByRemainders 30 = .ok (.lload_n 3, 1) := by decide +kernel
theorem dX8_signByRemainders_31 : decode cX8_signByRemainders 31 = .ok (.lload_n 3, 1) := by decide +kernel
theorem dX8_signByRemainders_32 : decode cX8_signByRemainders 32 = .ok (.lmul, 1) := by decide +kernel
theorem dX8_signByRemainders_33 : decode cX8_signByRemainders 33 = .ok (.iload_n 1, 1) := by decide +kernel
theorem dX8_signByRemainders_34 : decode cX8_signByRemainders 34 = .ok (.i2l, 1) := by decide +kernel
theorem dX8_signByRemainders_35 : decode cX8_signByRemainders 35 = .ok (.lload 5, 2) := by decide +kernel
theorem dX8_signByRemainders_37 : decode cX8_signByRemainders 37 = .ok (.lmul, 1) := by decide +kernel
theorem dX8_signByRemainders_38 : decode cX8_signByRemainders 38 = .ok (.lload 5, 2) := by decide +kernel
theorem dX8_signByRemainders_40 : decode cX8_signByRemainders 40 = .ok (.lmul, 1) := by decide +kernel
theorem dX8_signByRemainders_41 : decode cX8_signByRemainders 41 = .ok (.lsub, 1) := by decide +kernel
theorem dX8_signByRemainders_42 : decode cX8_signByRemainders 42 = .ok (.ldc2_w 140, 3) := by decide +kernel
theorem dX8_signByRemainders_45 : decode cX8_signByRemainders 45 = .ok (.invokestatic 142, 3) := by decide +kernel
theorem dX8_signByRemainders_48 : decode cX8_signByRemainders 48 = .ok (.lstore 7, 2) := by decide +kernel
theorem dX8_signByRemainders_50 : decode cX8_signByRemainders 50 = .ok (.lload 7, 2) := by decide +kernel
theorem dX8_signByRemainders_52 : decode cX8_signByRemainders 52 = .ok (.lconst 1, 1) := by decide +kernel
theorem dX8_signByRemainders_53 : decode cX8_signByRemainders 53 = .ok (.lcmp, 1) := by decide +kernel
theorem dX8_signByRemainders_54 : decode cX8_signByRemainders 54 = .ok (.ifCond .ne 7, 3) := by decide +kernel
theorem dX8_signByRemainders_57 : decode cX8_signByRemainders 57 = .ok (.iconst 1, 1) := by decide +kernel
theorem dX8_signByRemainders_58 : decode cX8_signByRemainders 58 = .ok (.goto 4, 3) := by decide +kernel
theorem dX8_signByRemainders_61 : decode cX8_signByRemainders 61 = .ok (.iconst (-1), 1) := by decide +kernel
theorem dX8_signByRemainders_62 : decode cX8_signByRemainders 62 = .ok (.ireturn, 1) := by decide +kernel
theorem dX8_nearRoot_0 : decode cX8_nearRoot 0 = .ok (.aload_n 0, 1) := by decide +kernel
theorem dX8_nearRoot_1 : decode cX8_nearRoot 1 = .ok (.iload_n 1, 1) := by decide +kernel
theorem dX8_nearRoot_2 : decode cX8_nearRoot 2 = .ok (.invokevirtual 131, 3) := by decide +kernel
theorem dX8_nearRoot_5 : decode cX8_nearRoot 5 = .ok (.aload_n 0, 1) := by decide +kernel
theorem dX8_nearRoot_6 : decode cX8_nearRoot 6 = .ok (.iload_n 1, 1) := by decide +kernel
theorem dX8_nearRoot_7 : decode cX8_nearRoot 7 = .ok (.invokevirtual 78, 3) := by decide +kernel
theorem dX8_nearRoot_10 : decode cX8_nearRoot 10 = .ok (.astore_n 2, 1) := by decide +kernel
theorem dX8_nearRoot_11 : decode cX8_nearRoot 11 = .ok (.aload_n 2, 1) := by decide +kernel
theorem dX8_nearRoot_12 : decode cX8_nearRoot 12 = .ok (.getfield 134, 3) := by decide +kernel
theorem dX8_nearRoot_15 : decode cX8_nearRoot 15 = .ok (.lconst 0, 1) := by decide +kernel
theorem dX8_nearRoot_16 : decode cX8_nearRoot 16 = .ok (.lcmp, 1) := by decide +kernel
theorem dX8_nearRoot_17 : decode cX8_nearRoot 17 = .ok (.ifCond .ne 13, 3) := by decide +kernel
theorem dX8_nearRoot_20 : decode cX8_nearRoot 20 = .ok (.new 126, 3) := by decide +kernel
theorem dX8_nearRoot_23 : decode cX8_nearRoot 23 = .ok (.dup, 1) := by decide +kernel
theorem dX8_nearRoot_24 : decode cX8_nearRoot 24 = .ok (.ldc 148, 2) := by decide +kernel
theorem dX8_nearRoot_26 : decode cX8_nearRoot 26 = .ok (.invokespecial 130, 3) := by decide +kernel
theorem dX8_nearRoot_29 : decode cX8_nearRoot 29 = .ok (.athrow, 1) := by decide +kernel
theorem dX8_nearRoot_30 : decode cX8_nearRoot 30 = .ok (.aload_n 2, 1) := by decide +kernel
theorem dX8_nearRoot_31 : decode cX8_nearRoot 31 = .ok (.getfield 82, 3) := by decide +kernel
theorem dX8_nearRoot_34 : decode cX8_nearRoot 34 = .ok (.l2f, 1) := by decide +kernel
theorem dX8_nearRoot_35 : decode cX8_nearRoot 35 = .ok (.aload_n 2, 1) := by decide +kernel
theorem dX8_nearRoot_36 : decode cX8_nearRoot 36 = .ok (.getfield 134, 3) := by decide +kernel
theorem dX8_nearRoot_39 : decode cX8_nearRoot 39 = .ok (.l2f, 1) := by decide +kernel
theorem dX8_nearRoot_40 : decode cX8_nearRoot 40 = .ok (.fdiv, 1) := by decide +kernel
theorem dX8_nearRoot_41 : decode cX8_nearRoot 41 = .ok (.freturn, 1) := by decide +kernel
theorem dX8_solutions_0 : decode cX8_solutions 0 = .ok (.aload_n 0, 1) := by decide +kernel
theorem dX8_solutions_1 : decode cX8_solutions 1 = .ok (.ldc2_w 150, 3) := by decide +kernel
theorem dX8_solutions_4 : decode cX8_solutions 4 = .ok (.invokevirtual 152, 3) := by decide +kernel
theorem dX8_solutions_7 : decode cX8_solutions 7 = .ok (.ireturn, 1) := by decide +kernel
theorem dX8_xAt_0 : decode cX8_xAt 0 = .ok (.aload_n 0, 1) := by decide +kernel
theorem dX8_xAt_1 : decode cX8_xAt 1 = .ok (.iload_n 1, 1) := by decide +kernel
theorem dX8_xAt_2 : decode cX8_xAt 2 = .ok (.invokevirtual 156, 3) := by decide +kernel
theorem dX8_xAt_5 : decode cX8_xAt 5 = .ok (.getfield 82, 3) := by decide +kernel
theorem dX8_xAt_8 : decode cX8_xAt 8 = .ok (.lreturn, 1) := by decide +kernel
theorem dX8_xAtBySet_0 : decode cX8_xAtBySet 0 = .ok (.iload_n 1, 1) := by decide +kernel
theorem dX8_xAtBySet_1 : decode cX8_xAtBySet 1 = .ok (.ifCond .ge 13, 3) := by decide +kernel
theorem dX8_xAtBySet_4 : decode cX8_xAtBySet 4 = .ok (.new 99, 3) := by decide +kernel
theorem dX8_xAtBySet_7 : decode cX8_xAtBySet 7 = .ok (.dup, 1) := by decide +kernel
theorem dX8_xAtBySet_8 : decode cX8_xAtBySet 8 = .ok (.ldc 159, 2) := by decide +kernel
theorem dX8_xAtBySet_10 : decode cX8_xAtBySet 10 = .ok (.invokespecial 103, 3) := by decide +kernel
theorem dX8_xAtBySet_13 : decode cX8_xAtBySet 13 = .ok (.athrow, 1) := by decide +kernel
theorem dX8_xAtBySet_14 : decode cX8_xAtBySet 14 = .ok (.aload_n 0, 1) := by decide +kernel
theorem dX8_xAtBySet_15 : decode cX8_xAtBySet 15 = .ok (.getfield 35, 3) := by decide +kernel
theorem dX8_xAtBySet_18 : decode cX8_xAtBySet 18 = .ok (.aload_n 0, 1) := by decide +kernel
theorem dX8_xAtBySet_19 : decode cX8_xAtBySet 19 = .ok (.getfield 42, 3) := by decide +kernel
theorem dX8_xAtBySet_22 : decode cX8_xAtBySet 22 = .ok (.invokevirtual 161, 3) := by decide +kernel
theorem dX8_xAtBySet_25 : decode cX8_xAtBySet 25 = .ok (.iload_n 1, 1) := by decide +kernel
theorem dX8_xAtBySet_26 : decode cX8_xAtBySet 26 = .ok (.aload_n 0, 1) := by decide +kernel
theorem dX8_xAtBySet_27 : decode cX8_xAtBySet 27 = .ok (.getfield 35, 3) := by decide +kernel
theorem dX8_xAtBySet_30 : decode cX8_xAtBySet 30 = .ok (.getfield 165, 3) := by decide +kernel
theorem dX8_xAtBySet_33 : decode cX8_xAtBySet 33 = .ok (.if_icmp .lt 13, 3) := by decide +kernel
theorem dX8_xAtBySet_36 : decode cX8_xAtBySet 36 = .ok (.new 126, 3) := by decide +kernel
theorem dX8_xAtBySet_39 : decode cX8_xAtBySet 39 = .ok (.dup, 1) := by decide +kernel
theorem dX8_xAtBySet_40 : decode cX8_xAtBySet 40 = .ok (.ldc 168, 2) := by decide +kernel
theorem dX8_xAtBySet_42 : decode cX8_xAtBySet 42 = .ok (.invokespecial 130, 3) := by decide +kernel
theorem dX8_xAtBySet_45 : decode cX8_xAtBySet 45 = .ok (.athrow, 1) := by decide +kernel
theorem dX8_xAtBySet_46 : decode cX8_xAtBySet 46 = .ok (.aload_n 0, 1) := by decide +kernel
theorem dX8_xAtBySet_47 : decode cX8_xAtBySet 47 = .ok (.getfield 35, 3) := by decide +kernel
theorem dX8_xAtBySet_50 : decode cX8_xAtBySet 50 = .ok (.iload_n 1, 1) := by decide +kernel
theorem dX8_xAtBySet_51 : decode cX8_xAtBySet 51 = .ok (.invokevirtual 170, 3) := by decide +kernel
theorem dX8_xAtBySet_54 : decode cX8_xAtBySet 54 = .ok (.lreturn, 1) := by decide +kernel
theorem dX8_stoneAt_0 : decode cX8_stoneAt 0 = .ok (.aload_n 0, 1) := by decide +kernel
theorem dX8_stoneAt_1 : decode cX8_stoneAt 1 = .ok (.iload_n 1, 1) := by decide +kernel
theorem dX8_stoneAt_2 : decode cX8_stoneAt 2 = .ok (.invokevirtual 156, 3) := by decide +kernel
theorem dX8_stoneAt_5 : decode cX8_stoneAt 5 = .ok (.getfield 173, 3) := by decide +kernel
theorem dX8_stoneAt_8 : decode cX8_stoneAt 8 = .ok (.ireturn, 1) := by decide +kernel
theorem dX8_solutionsUpTo_0 : decode cX8_solutionsUpTo 0 = .ok (.lload_n 1, 1) := by decide +kernel
theorem dX8_solutionsUpTo_1 : decode cX8_solutionsUpTo 1 = .ok (.lconst 0, 1) := by decide +kernel
theorem dX8_solutionsUpTo_2 : decode cX8_solutionsUpTo 2 = .ok (.lcmp, 1) := by decide +kernel
theorem dX8_solutionsUpTo_3 : decode cX8_solutionsUpTo 3 = .ok (.ifCond .lt 11, 3) := by decide +kernel
theorem dX8_solutionsUpTo_6 : decode cX8_solutionsUpTo 6 = .ok (.lload_n 1, 1) := by decide +kernel
theorem dX8_solutionsUpTo_7 : decode cX8_solutionsUpTo 7 = .ok (.ldc2_w 150, 3) := by decide +kernel
theorem dX8_solutionsUpTo_10 : decode cX8_solutionsUpTo 10 = .ok (.lcmp, 1) := by decide +kernel
theorem dX8_solutionsUpTo_11 : decode cX8_solutionsUpTo 11 = .ok (.ifCond .le 13, 3) := by decide +kernel
theorem dX8_solutionsUpTo_14 : decode cX8_solutionsUpTo 14 = .ok (.new 99, 3) := by decide +kernel
theorem dX8_solutionsUpTo_17 : decode cX8_solutionsUpTo 17 = .ok (.dup, 1) := by decide +kernel
theorem dX8_solutionsUpTo_18 : decode cX8_solutionsUpTo 18 = .ok (.ldc 176, 2) := by decide +kernel
theorem dX8_solutionsUpTo_20 : decode cX8_solutionsUpTo 20 = .ok (.invokespecial 103, 3) := by decide +kernel
theorem dX8_solutionsUpTo_23 : decode cX8_solutionsUpTo 23 = .ok (.athrow, 1) := by decide +kernel
theorem dX8_solutionsUpTo_24 : decode cX8_solutionsUpTo 24 = .ok (.aload_n 0, 1) := by decide +kernel
theorem dX8_solutionsUpTo_25 : decode cX8_solutionsUpTo 25 = .ok (.lload_n 1, 1) := by decide +kernel
theorem dX8_solutionsUpTo_26 : decode cX8_solutionsUpTo 26 = .ok (.invokevirtual 152, 3) := by decide +kernel
theorem dX8_solutionsUpTo_29 : decode cX8_solutionsUpTo 29 = .ok (.ireturn, 1) := by decide +kernel
theorem dX8_milled_0 : decode cX8_milled 0 = .ok (.aload_n 0, 1) := by decide +kernel
theorem dX8_milled_1 : decode cX8_milled 1 = .ok (.getfield 42, 3) := by decide +kernel
theorem dX8_milled_4 : decode cX8_milled 4 = .ok (.getfield 178, 3) := by decide +kernel
theorem dX8_milled_7 : decode cX8_milled 7 = .ok (.ireturn, 1) := by decide +kernel
theorem dX8_minusStones_0 : decode cX8_minusStones 0 = .ok (.iconst 0, 1) := by decide +kernel
theorem dX8_minusStones_1 : decode cX8_minusStones 1 = .ok (.istore_n 1, 1) := by decide +kernel
theorem dX8_minusStones_2 : decode cX8_minusStones 2 = .ok (.iconst 2, 1) := by decide +kernel
theorem dX8_minusStones_3 : decode cX8_minusStones 3 = .ok (.istore_n 2, 1) := by decide +kernel
theorem dX8_minusStones_4 : decode cX8_minusStones 4 = .ok (.iload_n 2, 1) := by decide +kernel
theorem dX8_minusStones_5 : decode cX8_minusStones 5 = .ok (.bipush 60, 2) := by decide +kernel
theorem dX8_minusStones_7 : decode cX8_minusStones 7 = .ok (.if_icmp .gt 35, 3) := by decide +kernel
theorem dX8_minusStones_10 : decode cX8_minusStones 10 = .ok (.aload_n 0, 1) := by decide +kernel
theorem dX8_minusStones_11 : decode cX8_minusStones 11 = .ok (.getfield 42, 3) := by decide +kernel
theorem dX8_minusStones_14 : decode cX8_minusStones 14 = .ok (.iload_n 2, 1) := by decide +kernel
theorem dX8_minusStones_15 : decode cX8_minusStones 15 = .ok (.invokevirtual 122, 3) := by decide +kernel
theorem dX8_minusStones_18 : decode cX8_minusStones 18 = .ok (.ifCond .eq 18, 3) := by decide +kernel
theorem dX8_minusStones_21 : decode cX8_minusStones 21 = .ok (.aload_n 0, 1) := by decide +kernel
theorem dX8_minusStones_22 : decode cX8_minusStones 22 = .ok (.getfield 42, 3) := by decide +kernel
theorem dX8_minusStones_25 : decode cX8_minusStones 25 = .ok (.iload_n 2, 1) := by decide +kernel
theorem dX8_minusStones_26 : decode cX8_minusStones 26 = .ok (.invokevirtual 137, 3) := by decide +kernel
theorem dX8_minusStones_29 : decode cX8_minusStones 29 = .ok (.iconst (-1), 1) := by decide +kernel
theorem dX8_minusStones_30 : decode cX8_minusStones 30 = .ok (.if_icmp .ne 6, 3) := by decide +kernel
theorem dX8_minusStones_33 : decode cX8_minusStones 33 = .ok (.iinc 1 1, 3) := by decide +kernel
theorem dX8_minusStones_36 : decode cX8_minusStones 36 = .ok (.iinc 2 1, 3) := by decide +kernel
theorem dX8_minusStones_39 : decode cX8_minusStones 39 = .ok (.goto (-35), 3) := by decide +kernel
theorem dX8_minusStones_42 : decode cX8_minusStones 42 = .ok (.iload_n 1, 1) := by decide +kernel
theorem dX8_minusStones_43 : decode cX8_minusStones 43 = .ok (.ireturn, 1) := by decide +kernel
theorem dX8_keep_0 : decode cX8_keep 0 = .ok (.aload_n 0, 1) := by decide +kernel
theorem dX8_keep_1 : decode cX8_keep 1 = .ok (.getfield 49, 3) := by decide +kernel
theorem dX8_keep_4 : decode cX8_keep 4 = .ok (.aload_n 0, 1) := by decide +kernel
theorem dX8_keep_5 : decode cX8_keep 5 = .ok (.getfield 42, 3) := by decide +kernel
theorem dX8_keep_8 : decode cX8_keep 8 = .ok (.invokevirtual 181, 3) := by decide +kernel
theorem dX8_keep_11 : decode cX8_keep 11 = .ok (.aload_n 0, 1) := by decide +kernel
theorem dX8_keep_12 : decode cX8_keep 12 = .ok (.iconst 1, 1) := by decide +kernel
theorem dX8_keep_13 : decode cX8_keep 13 = .ok (.putfield 184, 3) := by decide +kernel
theorem dX8_keep_16 : decode cX8_keep 16 = .ok (.aload_n 0, 1) := by decide +kernel
theorem dX8_keep_17 : decode cX8_keep 17 = .ok (.getfield 42, 3) := by decide +kernel
theorem dX8_keep_20 : decode cX8_keep 20 = .ok (.getfield 70, 3) := by decide +kernel
theorem dX8_keep_23 : decode cX8_keep 23 = .ok (.ireturn, 1) := by decide +kernel
theorem dX8_goBack_0 : decode cX8_goBack 0 = .ok (.aload_n 0, 1) := by decide +kernel
theorem dX8_goBack_1 : decode cX8_goBack 1 = .ok (.getfield 184, 3) := by decide +kernel
theorem dX8_goBack_4 : decode cX8_goBack 4 = .ok (.ifCond .ne 13, 3) := by decide +kernel
theorem dX8_goBack_7 : decode cX8_goBack 7 = .ok (.new 188, 3) := by decide +kernel
theorem dX8_goBack_10 : decode cX8_goBack 10 = .ok (.dup, 1) := by decide +kernel
theorem dX8_goBack_11 : decode cX8_goBack 11 = .ok (.ldc 190, 2) := by decide +kernel
theorem dX8_goBack_13 : decode cX8_goBack 13 = .ok (.invokespecial 192, 3) := by decide +kernel
theorem dX8_goBack_16 : decode cX8_goBack 16 = .ok (.athrow, 1) := by decide +kernel
theorem dX8_goBack_17 : decode cX8_goBack 17 = .ok (.aload_n 0, 1) := by decide +kernel
theorem dX8_goBack_18 : decode cX8_goBack 18 = .ok (.getfield 55, 3) := by decide +kernel
theorem dX8_goBack_21 : decode cX8_goBack 21 = .ok (.aload_n 0, 1) := by decide +kernel
theorem dX8_goBack_22 : decode cX8_goBack 22 = .ok (.getfield 42, 3) := by decide +kernel
theorem dX8_goBack_25 : decode cX8_goBack 25 = .ok (.invokevirtual 193, 3) := by decide +kernel
theorem dX8_goBack_28 : decode cX8_goBack 28 = .ok (.aload_n 0, 1) := by decide +kernel
theorem dX8_goBack_29 : decode cX8_goBack 29 = .ok (.getfield 42, 3) := by decide +kernel
theorem dX8_goBack_32 : decode cX8_goBack 32 = .ok (.aload_n 0, 1) := by decide +kernel
theorem dX8_goBack_33 : decode cX8_goBack 33 = .ok (.getfield 49, 3) := by decide +kernel
theorem dX8_goBack_36 : decode cX8_goBack 36 = .ok (.invokevirtual 181, 3) := by decide +kernel
theorem dX8_goBack_39 : decode cX8_goBack 39 = .ok (.aload_n 0, 1) := by decide +kernel
theorem dX8_goBack_40 : decode cX8_goBack 40 = .ok (.getfield 42, 3) := by decide +kernel
theorem dX8_goBack_43 : decode cX8_goBack 43 = .ok (.getfield 70, 3) := by decide +kernel
theorem dX8_goBack_46 : decode cX8_goBack 46 = .ok (.ireturn, 1) := by decide +kernel
theorem dX8_states_0 : decode cX8_states 0 = .ok (.aload_n 0, 1) := by decide +kernel
theorem dX8_states_1 : decode cX8_states 1 = .ok (.getfield 55, 3) := by decide +kernel
theorem dX8_states_4 : decode cX8_states 4 = .ok (.getfield 196, 3) := by decide +kernel
theorem dX8_states_7 : decode cX8_states 7 = .ok (.ireturn, 1) := by decide +kernel
theorem dX8_undo_0 : decode cX8_undo 0 = .ok (.aload_n 0, 1) := by decide +kernel
theorem dX8_undo_1 : decode cX8_undo 1 = .ok (.getfield 55, 3) := by decide +kernel
theorem dX8_undo_4 : decode cX8_undo 4 = .ok (.aload_n 0, 1) := by decide +kernel
theorem dX8_undo_5 : decode cX8_undo 5 = .ok (.getfield 42, 3) := by decide +kernel
theorem dX8_undo_8 : decode cX8_undo 8 = .ok (.invokevirtual 197, 3) := by decide +kernel
theorem dX8_undo_11 : decode cX8_undo 11 = .ok (.ifCond .ne 13, 3) := by decide +kernel
theorem dX8_undo_14 : decode cX8_undo 14 = .ok (.new 188, 3) := by decide +kernel
theorem dX8_undo_17 : decode cX8_undo 17 = .ok (.dup, 1) := by decide +kernel
theorem dX8_undo_18 : decode cX8_undo 18 = .ok (.ldc 201, 2) := by decide +kernel
theorem dX8_undo_20 : decode cX8_undo 20 = .ok (.invokespecial 192, 3) := by decide +kernel
theorem dX8_undo_23 : decode cX8_undo 23 = .ok (.athrow, 1) := by decide +kernel
theorem dX8_undo_24 : decode cX8_undo 24 = .ok (.aload_n 0, 1) := by decide +kernel
theorem dX8_undo_25 : decode cX8_undo 25 = .ok (.getfield 55, 3) := by decide +kernel
theorem dX8_undo_28 : decode cX8_undo 28 = .ok (.getfield 196, 3) := by decide +kernel
theorem dX8_undo_31 : decode cX8_undo 31 = .ok (.ireturn, 1) := by decide +kernel
theorem dX8_type_0 : decode cX8_type 0 = .ok (.iload_n 1, 1) := by decide +kernel
theorem dX8_type_1 : decode cX8_type 1 = .ok (.bipush 32, 2) := by decide +kernel
theorem dX8_type_3 : decode cX8_type 3 = .ok (.if_icmp .lt 9, 3) := by decide +kernel
theorem dX8_type_6 : decode cX8_type 6 = .ok (.iload_n 1, 1) := by decide +kernel
theorem dX8_type_7 : decode cX8_type 7 = .ok (.bipush 126, 2) := by decide +kernel
theorem dX8_type_9 : decode cX8_type 9 = .ok (.if_icmp .le 13, 3) := by decide +kernel
theorem dX8_type_12 : decode cX8_type 12 = .ok (.new 99, 3) := by decide +kernel
theorem dX8_type_15 : decode cX8_type 15 = .ok (.dup, 1) := by decide +kernel
theorem dX8_type_16 : decode cX8_type 16 = .ok (.ldc 203, 2) := by decide +kernel
theorem dX8_type_18 : decode cX8_type 18 = .ok (.invokespecial 103, 3) := by decide +kernel
theorem dX8_type_21 : decode cX8_type 21 = .ok (.athrow, 1) := by decide +kernel
theorem dX8_type_22 : decode cX8_type 22 = .ok (.aload_n 0, 1) := by decide +kernel
theorem dX8_type_23 : decode cX8_type 23 = .ok (.getfield 62, 3) := by decide +kernel
theorem dX8_type_26 : decode cX8_type 26 = .ok (.iload_n 1, 1) := by decide +kernel
theorem dX8_type_27 : decode cX8_type 27 = .ok (.i2c, 1) := by decide +kernel
theorem dX8_type_28 : decode cX8_type 28 = .ok (.invokevirtual 205, 3) := by decide +kernel
theorem dX8_type_31 : decode cX8_type 31 = .ok (.ifCond .ne 13, 3) := by decide +kernel
theorem dX8_type_34 : decode cX8_type 34 = .ok (.new 188, 3) := by decide +kernel
theorem dX8_type_37 : decode cX8_type 37 = .ok (.dup, 1) := by decide +kernel
theorem dX8_type_38 : decode cX8_type 38 = .ok (.ldc 209, 2) := by decide +kernel
theorem dX8_type_40 : decode cX8_type 40 = .ok (.invokespecial 192, 3) := by decide +kernel
theorem dX8_type_43 : decode cX8_type 43 = .ok (.athrow, 1) := by decide +kernel
theorem dX8_type_44 : decode cX8_type 44 = .ok (.aload_n 0, 1) := by decide +kernel
theorem dX8_type_45 : decode cX8_type 45 = .ok (.getfield 62, 3) := by decide +kernel
theorem dX8_type_48 : decode cX8_type 48 = .ok (.getfield 211, 3) := by decide +kernel
theorem dX8_type_51 : decode cX8_type 51 = .ok (.ireturn, 1) := by decide +kernel
theorem dX8_clearText_0 : decode cX8_clearText 0 = .ok (.aload_n 0, 1) := by decide +kernel
theorem dX8_clearText_1 : decode cX8_clearText 1 = .ok (.getfield 62, 3) := by decide +kernel
theorem dX8_clearText_4 : decode cX8_clearText 4 = .ok (.getfield 211, 3) := by decide +kernel
theorem dX8_clearText_7 : decode cX8_clearText 7 = .ok (.istore_n 1, 1) := by decide +kernel
theorem dX8_clearText_8 : decode cX8_clearText 8 = .ok (.aload_n 0, 1) := by decide +kernel
theorem dX8_clearText_9 : decode cX8_clearText 9 = .ok (.getfield 62, 3) := by decide +kernel
theorem dX8_clearText_12 : decode cX8_clearText 12 = .ok (.iconst 0, 1) := by decide +kernel
theorem dX8_clearText_13 : decode cX8_clearText 13 = .ok (.putfield 211, 3) := by decide +kernel
theorem dX8_clearText_16 : decode cX8_clearText 16 = .ok (.iload_n 1, 1) := by decide +kernel
theorem dX8_clearText_17 : decode cX8_clearText 17 = .ok (.ireturn, 1) := by decide +kernel
theorem dX8_faultPosition_0 : decode cX8_faultPosition 0 = .ok (.aload_n 0, 1) := by decide +kernel
theorem dX8_faultPosition_1 : decode cX8_faultPosition 1 = .ok (.invokevirtual 214, 3) := by decide +kernel
theorem dX8_faultPosition_4 : decode cX8_faultPosition 4 = .ok (.aload_n 0, 1) := by decide +kernel
theorem dX8_faultPosition_5 : decode cX8_faultPosition 5 = .ok (.getfield 62, 3) := by decide +kernel
theorem dX8_faultPosition_8 : decode cX8_faultPosition 8 = .ok (.getfield 217, 3) := by decide +kernel
theorem dX8_faultPosition_11 : decode cX8_faultPosition 11 = .ok (.ireturn, 1) := by decide +kernel
theorem dX8_faultReason_0 : decode cX8_faultReason 0 = .ok (.aload_n 0, 1) := by decide +kernel
theorem dX8_faultReason_1 : decode cX8_faultReason 1 = .ok (.invokevirtual 214, 3) := by decide +kernel
theorem dX8_faultReason_4 : decode cX8_faultReason 4 = .ok (.aload_n 0, 1) := by decide +kernel
theorem dX8_faultReason_5 : decode cX8_faultReason 5 = .ok (.getfield 62, 3) := by decide +kernel
theorem dX8_faultReason_8 : decode cX8_faultReason 8 = .ok (.getfield 220, 3) := by decide +kernel
theorem dX8_faultReason_11 : decode cX8_faultReason 11 = .ok (.ireturn, 1) := by decide +kernel
theorem dX8_faultCause_0 : decode cX8_faultCause 0 = .ok (.aload_n 0, 1) := by decide +kernel
theorem dX8_faultCause_1 : decode cX8_faultCause 1 = .ok (.invokevirtual 214, 3) := by decide +kernel
theorem dX8_faultCause_4 : decode cX8_faultCause 4 = .ok (.aload_n 0, 1) := by decide +kernel
theorem dX8_faultCause_5 : decode cX8_faultCause 5 = .ok (.getfield 62, 3) := by decide +kernel
theorem dX8_faultCause_8 : decode cX8_faultCause 8 = .ok (.getfield 223, 3) := by decide +kernel
theorem dX8_faultCause_11 : decode cX8_faultCause 11 = .ok (.ireturn, 1) := by decide +kernel
theorem dX8_play_0 : decode cX8_play 0 = .ok (.aload_n 0, 1) := by decide +kernel
theorem dX8_play_1 : decode cX8_play 1 = .ok (.getfield 62, 3) := by decide +kernel
theorem dX8_play_4 : decode cX8_play 4 = .ok (.aload_n 0, 1) := by decide +kernel
theorem dX8_play_5 : decode cX8_play 5 = .ok (.getfield 42, 3) := by decide +kernel
theorem dX8_play_8 : decode cX8_play 8 = .ok (.aload_n 0, 1) := by decide +kernel
theorem dX8_play_9 : decode cX8_play 9 = .ok (.getfield 46, 3) := by decide +kernel
theorem dX8_play_12 : decode cX8_play 12 = .ok (.invokevirtual 226, 3) := by decide +kernel
theorem dX8_play_15 : decode cX8_play 15 = .ok (.ifCond .eq 13, 3) := by decide +kernel
theorem dX8_play_18 : decode cX8_play 18 = .ok (.new 188, 3) := by decide +kernel
theorem dX8_play_21 : decode cX8_play 21 = .ok (.dup, 1) := by decide +kernel
theorem dX8_play_22 : decode cX8_play 22 = .ok (.ldc 230, 2) := by decide +kernel
theorem dX8_play_24 : decode cX8_play 24 = .ok (.invokespecial 192, 3) := by decide +kernel
theorem dX8_play_27 : decode cX8_play 27 = .ok (.athrow, 1) := by decide +kernel
theorem dX8_play_28 : decode cX8_play 28 = .ok (.aload_n 0, 1) := by decide +kernel
theorem dX8_play_29 : decode cX8_play 29 = .ok (.getfield 55, 3) := by decide +kernel
theorem dX8_play_32 : decode cX8_play 32 = .ok (.aload_n 0, 1) := by decide +kernel
theorem dX8_play_33 : decode cX8_play 33 = .ok (.getfield 42, 3) := by decide +kernel
theorem dX8_play_36 : decode cX8_play 36 = .ok (.invokevirtual 193, 3) := by decide +kernel
theorem dX8_play_39 : decode cX8_play 39 = .ok (.aload_n 0, 1) := by decide +kernel
theorem dX8_play_40 : decode cX8_play 40 = .ok (.getfield 42, 3) := by decide +kernel
theorem dX8_play_43 : decode cX8_play 43 = .ok (.aload_n 0, 1) := by decide +kernel
theorem dX8_play_44 : decode cX8_play 44 = .ok (.getfield 46, 3) := by decide +kernel
theorem dX8_play_47 : decode cX8_play 47 = .ok (.invokevirtual 181, 3) := by decide +kernel
theorem dX8_play_50 : decode cX8_play 50 = .ok (.aload_n 0, 1) := by decide +kernel
theorem dX8_play_51 : decode cX8_play 51 = .ok (.getfield 62, 3) := by decide +kernel
theorem dX8_play_54 : decode cX8_play 54 = .ok (.getfield 232, 3) := by decide +kernel
theorem dX8_play_57 : decode cX8_play 57 = .ok (.ireturn, 1) := by decide +kernel
