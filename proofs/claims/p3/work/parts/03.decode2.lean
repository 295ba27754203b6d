theorem dX9_roomsOfCommonest_25 : decode cX9_roomsOfCommonest 25 = .ok (.invokevirtual 19, 3) := by decide +kernel
theorem dX9_roomsOfCommonest_28 : decode cX9_roomsOfCommonest 28 = .ok (.iload_n 3, 1) := by decide +kernel
theorem dX9_roomsOfCommonest_29 : decode cX9_roomsOfCommonest 29 = .ok (.if_icmp .ne 6, 3) := by decide +kernel
theorem dX9_roomsOfCommonest_32 : decode cX9_roomsOfCommonest 32 = .ok (.iinc 4 1, 3) := by decide +kernel
theorem dX9_roomsOfCommonest_35 : decode cX9_roomsOfCommonest 35 = .ok (.iinc 5 1, 3) := by decide +kernel
theorem dX9_roomsOfCommonest_38 : decode cX9_roomsOfCommonest 38 = .ok (.goto (-22), 3) := by decide +kernel
theorem dX9_roomsOfCommonest_41 : decode cX9_roomsOfCommonest 41 = .ok (.iload_n 2, 1) := by decide +kernel
theorem dX9_roomsOfCommonest_42 : decode cX9_roomsOfCommonest 42 = .ok (.iload 4, 2) := by decide +kernel
theorem dX9_roomsOfCommonest_44 : decode cX9_roomsOfCommonest 44 = .ok (.invokestatic 59, 3) := by decide +kernel
theorem dX9_roomsOfCommonest_47 : decode cX9_roomsOfCommonest 47 = .ok (.istore_n 2, 1) := by decide +kernel
theorem dX9_roomsOfCommonest_48 : decode cX9_roomsOfCommonest 48 = .ok (.iinc 3 1, 3) := by decide +kernel
theorem dX9_roomsOfCommonest_51 : decode cX9_roomsOfCommonest 51 = .ok (.goto (-47), 3) := by decide +kernel
theorem dX9_roomsOfCommonest_54 : decode cX9_roomsOfCommonest 54 = .ok (.iload_n 2, 1) := by decide +kernel
theorem dX9_roomsOfCommonest_55 : decode cX9_roomsOfCommonest 55 = .ok (.ireturn, 1) := by decide +kernel
theorem dX10_init_0 : decode cX10_init 0 = .ok (.aload_n 0, 1) := by decide +kernel
theorem dX10_init_1 : decode cX10_init 1 = .ok (.invokespecial 3, 3) := by decide +kernel
theorem dX10_init_4 : decode cX10_init 4 = .ok (.aload_n 0, 1) := by decide +kernel
theorem dX10_init_5 : decode cX10_init 5 = .ok (.sipush 260, 3) := by decide +kernel
theorem dX10_init_8 : decode cX10_init 8 = .ok (.newarray .int, 2) := by decide +kernel
theorem dX10_init_10 : decode cX10_init 10 = .ok (.putfield 9, 3) := by decide +kernel
theorem dX10_init_13 : decode cX10_init 13 = .ok (.aload_n 0, 1) := by decide +kernel
theorem dX10_init_14 : decode cX10_init 14 = .ok (.iconst 0, 1) := by decide +kernel
theorem dX10_init_15 : decode cX10_init 15 = .ok (.putfield 15, 3) := by decide +kernel
theorem dX10_init_18 : decode cX10_init 18 = .ok (.aload_n 0, 1) := by decide +kernel
theorem dX10_init_19 : decode cX10_init 19 = .ok (.iconst 0, 1) := by decide +kernel
theorem dX10_init_20 : decode cX10_init 20 = .ok (.putfield 19, 3) := by decide +kernel
theorem dX10_init_23 : decode cX10_init 23 = .ok (.aload_n 0, 1) := by decide +kernel
theorem dX10_init_24 : decode cX10_init 24 = .ok (.iconst 0, 1) := by decide +kernel
theorem dX10_init_25 : decode cX10_init 25 = .ok (.putfield 22, 3) := by decide +kernel
theorem dX10_init_28 : decode cX10_init 28 = .ok (.aload_n 0, 1) := by decide +kernel
theorem dX10_init_29 : decode cX10_init 29 = .ok (.iconst 0, 1) := by decide +kernel
theorem dX10_init_30 : decode cX10_init 30 = .ok (.putfield 25, 3) := by decide +kernel
theorem dX10_init_33 : decode cX10_init 33 = .ok (.return_, 1) := by decide +kernel
theorem dX10_append_0 : decode cX10_append 0 = .ok (.bipush 24, 2) := by decide +kernel
theorem dX10_append_2 : decode cX10_append 2 = .ok (.istore_n 2, 1) := by decide +kernel
theorem dX10_append_3 : decode cX10_append 3 = .ok (.iload_n 2, 1) := by decide +kernel
theorem dX10_append_4 : decode cX10_append 4 = .ok (.ifCond .lt 54, 3) := by decide +kernel
theorem dX10_append_7 : decode cX10_append 7 = .ok (.aload_n 0, 1) := by decide +kernel
theorem dX10_append_8 : decode cX10_append 8 = .ok (.getfield 15, 3) := by decide +kernel
theorem dX10_append_11 : decode cX10_append 11 = .ok (.ifCond .lt 41, 3) := by decide +kernel
theorem dX10_append_14 : decode cX10_append 14 = .ok (.aload_n 0, 1) := by decide +kernel
theorem dX10_append_15 : decode cX10_append 15 = .ok (.getfield 15, 3) := by decide +kernel
theorem dX10_append_18 : decode cX10_append 18 = .ok (.aload_n 0, 1) := by decide +kernel
theorem dX10_append_19 : decode cX10_append 19 = .ok (.getfield 9, 3) := by decide +kernel
theorem dX10_append_22 : decode cX10_append 22 = .ok (.arraylength, 1) := by decide +kernel
theorem dX10_append_23 : decode cX10_append 23 = .ok (.if_icmp .ge 29, 3) := by decide +kernel
theorem dX10_append_26 : decode cX10_append 26 = .ok (.aload_n 0, 1) := by decide +kernel
theorem dX10_append_27 : decode cX10_append 27 = .ok (.getfield 9, 3) := by decide +kernel
theorem dX10_append_30 : decode cX10_append 30 = .ok (.aload_n 0, 1) := by decide +kernel
theorem dX10_append_31 : decode cX10_append 31 = .ok (.getfield 15, 3) := by decide +kernel
theorem dX10_append_34 : decode cX10_append 34 = .ok (.iload_n 1, 1) := by decide +kernel
theorem dX10_append_35 : decode cX10_append 35 = .ok (.iload_n 2, 1) := by decide +kernel
theorem dX10_append_36 : decode cX10_append 36 = .ok (.ishr, 1) := by decide +kernel
theorem dX10_append_37 : decode cX10_append 37 = .ok (.sipush 255, 3) := by decide +kernel
theorem dX10_append_40 : decode cX10_append 40 = .ok (.iand, 1) := by decide +kernel
theorem dX10_append_41 : decode cX10_append 41 = .ok (.iastore, 1) := by decide +kernel
theorem dX10_append_42 : decode cX10_append 42 = .ok (.aload_n 0, 1) := by decide +kernel
theorem dX10_append_43 : decode cX10_append 43 = .ok (.dup, 1) := by decide +kernel
theorem dX10_append_44 : decode cX10_append 44 = .ok (.getfield 15, 3) := by decide +kernel
theorem dX10_append_47 : decode cX10_append 47 = .ok (.iconst 1, 1) := by decide +kernel
theorem dX10_append_48 : decode cX10_append 48 = .ok (.iadd, 1) := by decide +kernel
theorem dX10_append_49 : decode cX10_append 49 = .ok (.putfield 15, 3) := by decide +kernel
theorem dX10_append_52 : decode cX10_append 52 = .ok (.iinc 2 (-8), 3) := by decide +kernel
theorem dX10_append_55 : decode cX10_append 55 = .ok (.goto (-52), 3) := by decide +kernel
theorem dX10_append_58 : decode cX10_append 58 = .ok (.return_, 1) := by decide +kernel
theorem dX10_holds_0 : decode cX10_holds 0 = .ok (.iload_n 1, 1) := by decide +kernel
theorem dX10_holds_1 : decode cX10_holds 1 = .ok (.iload_n 2, 1) := by decide +kernel
theorem dX10_holds_2 : decode cX10_holds 2 = .ok (.if_icmp .lt 20, 3) := by decide +kernel
theorem dX10_holds_5 : decode cX10_holds 5 = .ok (.iload_n 1, 1) := by decide +kernel
theorem dX10_holds_6 : decode cX10_holds 6 = .ok (.iload_n 3, 1) := by decide +kernel
theorem dX10_holds_7 : decode cX10_holds 7 = .ok (.if_icmp .gt 15, 3) := by decide +kernel
theorem dX10_holds_10 : decode cX10_holds 10 = .ok (.iload_n 1, 1) := by decide +kernel
theorem dX10_holds_11 : decode cX10_holds 11 = .ok (.aload_n 0, 1) := by decide +kernel
theorem dX10_holds_12 : decode cX10_holds 12 = .ok (.getfield 15, 3) := by decide +kernel
theorem dX10_holds_15 : decode cX10_holds 15 = .ok (.if_icmp .gt 7, 3) := by decide +kernel
theorem dX10_holds_18 : decode cX10_holds 18 = .ok (.iconst 1, 1) := by decide +kernel
theorem dX10_holds_19 : decode cX10_holds 19 = .ok (.goto 4, 3) := by decide +kernel
theorem dX10_holds_22 : decode cX10_holds 22 = .ok (.iconst 0, 1) := by decide +kernel
theorem dX10_holds_23 : decode cX10_holds 23 = .ok (.ireturn, 1) := by decide +kernel
theorem dX10_take_0 : decode cX10_take 0 = .ok (.aload_n 0, 1) := by decide +kernel
theorem dX10_take_1 : decode cX10_take 1 = .ok (.iload_n 1, 1) := by decide +kernel
theorem dX10_take_2 : decode cX10_take 2 = .ok (.putfield 19, 3) := by decide +kernel
theorem dX10_take_5 : decode cX10_take 5 = .ok (.aload_n 0, 1) := by decide +kernel
theorem dX10_take_6 : decode cX10_take 6 = .ok (.iconst 0, 1) := by decide +kernel
theorem dX10_take_7 : decode cX10_take 7 = .ok (.putfield 22, 3) := by decide +kernel
theorem dX10_take_10 : decode cX10_take 10 = .ok (.aload_n 0, 1) := by decide +kernel
theorem dX10_take_11 : decode cX10_take 11 = .ok (.iconst 0, 1) := by decide +kernel
theorem dX10_take_12 : decode cX10_take 12 = .ok (.putfield 25, 3) := by decide +kernel
theorem dX10_take_15 : decode cX10_take 15 = .ok (.aload_n 0, 1) := by decide +kernel
theorem dX10_take_16 : decode cX10_take 16 = .ok (.iconst 0, 1) := by decide +kernel
theorem dX10_take_17 : decode cX10_take 17 = .ok (.putfield 15, 3) := by decide +kernel
theorem dX10_take_20 : decode cX10_take 20 = .ok (.return_, 1) := by decide +kernel
theorem dX10_byteAt_0 : decode cX10_byteAt 0 = .ok (.iload_n 1, 1) := by decide +kernel
theorem dX10_byteAt_1 : decode cX10_byteAt 1 = .ok (.ifCond .lt 20, 3) := by decide +kernel
theorem dX10_byteAt_4 : decode cX10_byteAt 4 = .ok (.iload_n 1, 1) := by decide +kernel
theorem dX10_byteAt_5 : decode cX10_byteAt 5 = .ok (.aload_n 0, 1) := by decide +kernel
theorem dX10_byteAt_6 : decode cX10_byteAt 6 = .ok (.getfield 19, 3) := by decide +kernel
theorem dX10_byteAt_9 : decode cX10_byteAt 9 = .ok (.if_icmp .ge 12, 3) := by decide +kernel
theorem dX10_byteAt_12 : decode cX10_byteAt 12 = .ok (.iload_n 1, 1) := by decide +kernel
theorem dX10_byteAt_13 : decode cX10_byteAt 13 = .ok (.aload_n 0, 1) := by decide +kernel
theorem dX10_byteAt_14 : decode cX10_byteAt 14 = .ok (.getfield 9, 3) := by decide +kernel
theorem dX10_byteAt_17 : decode cX10_byteAt 17 = .ok (.arraylength, 1) := by decide +kernel
theorem dX10_byteAt_18 : decode cX10_byteAt 18 = .ok (.if_icmp .lt 5, 3) := by decide +kernel
theorem dX10_byteAt_21 : decode cX10_byteAt 21 = .ok (.iconst (-1), 1) := by decide +kernel
theorem dX10_byteAt_22 : decode cX10_byteAt 22 = .ok (.ireturn, 1) := by decide +kernel
theorem dX10_byteAt_23 : decode cX10_byteAt 23 = .ok (.aload_n 0, 1) := by decide +kernel
theorem dX10_byteAt_24 : decode cX10_byteAt 24 = .ok (.getfield 9, 3) := by decide +kernel
theorem dX10_byteAt_27 : decode cX10_byteAt 27 = .ok (.iload_n 1, 1) := by decide +kernel
theorem dX10_byteAt_28 : decode cX10_byteAt 28 = .ok (.iaload, 1) := by decide +kernel
theorem dX10_byteAt_29 : decode cX10_byteAt 29 = .ok (.ireturn, 1) := by decide +kernel
theorem dX10_now_0 : decode cX10_now 0 = .ok (.aload_n 0, 1) := by decide +kernel
theorem dX10_now_1 : decode cX10_now 1 = .ok (.getfield 22, 3) := by decide +kernel
theorem dX10_now_4 : decode cX10_now 4 = .ok (.ifCond .lt 38, 3) := by decide +kernel
theorem dX10_now_7 : decode cX10_now 7 = .ok (.aload_n 0, 1) := by decide +kernel
theorem dX10_now_8 : decode cX10_now 8 = .ok (.getfield 22, 3) := by decide +kernel
theorem dX10_now_11 : decode cX10_now 11 = .ok (.aload_n 0, 1) := by decide +kernel
theorem dX10_now_12 : decode cX10_now 12 = .ok (.getfield 19, 3) := by decide +kernel
theorem dX10_now_15 : decode cX10_now 15 = .ok (.if_icmp .ge 27, 3) := by decide +kernel
theorem dX10_now_18 : decode cX10_now 18 = .ok (.aload_n 0, 1) := by decide +kernel
theorem dX10_now_19 : decode cX10_now 19 = .ok (.getfield 22, 3) := by decide +kernel
theorem dX10_now_22 : decode cX10_now 22 = .ok (.aload_n 0, 1) := by decide +kernel
theorem dX10_now_23 : decode cX10_now 23 = .ok (.getfield 9, 3) := by decide +kernel
theorem dX10_now_26 : decode cX10_now 26 = .ok (.arraylength, 1) := by decide +kernel
theorem dX10_now_27 : decode cX10_now 27 = .ok (.if_icmp .ge 15, 3) := by decide +kernel
theorem dX10_now_30 : decode cX10_now 30 = .ok (.aload_n 0, 1) := by decide +kernel
theorem dX10_now_31 : decode cX10_now 31 = .ok (.getfield 9, 3) := by decide +kernel
theorem dX10_now_34 : decode cX10_now 34 = .ok (.aload_n 0, 1) := by decide +kernel
theorem dX10_now_35 : decode cX10_now 35 = .ok (.getfield 22, 3) := by decide +kernel
theorem dX10_now_38 : decode cX10_now 38 = .ok (.iaload, 1) := by decide +kernel
theorem dX10_now_39 : decode cX10_now 39 = .ok (.goto 4, 3) := by decide +kernel
theorem dX10_now_42 : decode cX10_now 42 = .ok (.iconst (-1), 1) := by decide +kernel
theorem dX10_now_43 : decode cX10_now 43 = .ok (.ireturn, 1) := by decide +kernel
theorem dX10_fail_0 : decode cX10_fail 0 = .ok (.aload_n 0, 1) := by decide +kernel
theorem dX10_fail_1 : decode cX10_fail 1 = .ok (.sipush (-1000), 3) := by decide +kernel
theorem dX10_fail_4 : decode cX10_fail 4 = .ok (.iload_n 1, 1) := by decide +kernel
theorem dX10_fail_5 : decode cX10_fail 5 = .ok (.imul, 1) := by decide +kernel
theorem dX10_fail_6 : decode cX10_fail 6 = .ok (.iload_n 2, 1) := by decide +kernel
theorem dX10_fail_7 : decode cX10_fail 7 = .ok (.isub, 1) := by decide +kernel
theorem dX10_fail_8 : decode cX10_fail 8 = .ok (.putfield 25, 3) := by decide +kernel
theorem dX10_fail_11 : decode cX10_fail 11 = .ok (.iconst 0, 1) := by decide +kernel
theorem dX10_fail_12 : decode cX10_fail 12 = .ok (.ireturn, 1) := by decide +kernel
theorem dX10_cannotStand_0 : decode cX10_cannotStand 0 = .ok (.aload_n 0, 1) := by decide +kernel
theorem dX10_cannotStand_1 : decode cX10_cannotStand 1 = .ok (.iconst 1, 1) := by decide +kernel
theorem dX10_cannotStand_2 : decode cX10_cannotStand 2 = .ok (.aload_n 0, 1) := by decide +kernel
theorem dX10_cannotStand_3 : decode cX10_cannotStand 3 = .ok (.getfield 22, 3) := by decide +kernel
theorem dX10_cannotStand_6 : decode cX10_cannotStand 6 = .ok (.invokevirtual 28, 3) := by decide +kernel
theorem dX10_cannotStand_9 : decode cX10_cannotStand 9 = .ok (.ireturn, 1) := by decide +kernel
theorem dX10_expect_0 : decode cX10_expect 0 = .ok (.aload_n 0, 1) := by decide +kernel
theorem dX10_expect_1 : decode cX10_expect 1 = .ok (.invokevirtual 32, 3) := by decide +kernel
theorem dX10_expect_4 : decode cX10_expect 4 = .ok (.iload_n 1, 1) := by decide +kernel
theorem dX10_expect_5 : decode cX10_expect 5 = .ok (.if_icmp .eq 13, 3) := by decide +kernel
theorem dX10_expect_8 : decode cX10_expect 8 = .ok (.aload_n 0, 1) := by decide +kernel
theorem dX10_expect_9 : decode cX10_expect 9 = .ok (.iconst 1, 1) := by decide +kernel
theorem dX10_expect_10 : decode cX10_expect 10 = .ok (.aload_n 0, 1) := by decide +kernel
theorem dX10_expect_11 : decode cX10_expect 11 = .ok (.getfield 22, 3) := by decide +kernel
theorem dX10_expect_14 : decode cX10_expect 14 = .ok (.invokevirtual 28, 3) := by decide +kernel
theorem dX10_expect_17 : decode cX10_expect 17 = .ok (.ireturn, 1) := by decide +kernel
theorem dX10_expect_18 : decode cX10_expect 18 = .ok (.aload_n 0, 1) := by decide +kernel
theorem dX10_expect_19 : decode cX10_expect 19 = .ok (.dup, 1) := by decide +kernel
theorem dX10_expect_20 : decode cX10_expect 20 = .ok (.getfield 22, 3) := by decide +kernel
theorem dX10_expect_23 : decode cX10_expect 23 = .ok (.iconst 1, 1) := by decide +kernel
theorem dX10_expect_24 : decode cX10_expect 24 = .ok (.iadd, 1) := by decide +kernel
theorem dX10_expect_25 : decode cX10_expect 25 = .ok (.putfield 22, 3) := by decide +kernel
theorem dX10_expect_28 : decode cX10_expect 28 = .ok (.iconst 1, 1) := by decide +kernel
theorem dX10_expect_29 : decode cX10_expect 29 = .ok (.ireturn, 1) := by decide +kernel
theorem dX10_readNumber_0 : decode cX10_readNumber 0 = .ok (.aload_n 0, 1) := by decide +kernel
theorem dX10_readNumber_1 : decode cX10_readNumber 1 = .ok (.invokevirtual 32, 3) := by decide +kernel
theorem dX10_readNumber_4 : decode cX10_readNumber 4 = .ok (.invokestatic 36, 3) := by decide +kernel
theorem dX10_readNumber_7 : decode cX10_readNumber 7 = .ok (.ifCond .ne 15, 3) := by decide +kernel
theorem dX10_readNumber_10 : decode cX10_readNumber 10 = .ok (.aload_n 0, 1) := by decide +kernel
theorem dX10_readNumber_11 : decode cX10_readNumber 11 = .ok (.iconst 1, 1) := by decide +kernel
theorem dX10_readNumber_12 : decode cX10_readNumber 12 = .ok (.aload_n 0, 1) := by decide +kernel
theorem dX10_readNumber_13 : decode cX10_readNumber 13 = .ok (.getfield 22, 3) := by decide +kernel
theorem dX10_readNumber_16 : decode cX10_readNumber 16 = .ok (.invokevirtual 28, 3) := by decide +kernel
theorem dX10_readNumber_19 : decode cX10_readNumber 19 = .ok (.pop, 1) := by decide +kernel
theorem dX10_readNumber_20 : decode cX10_readNumber 20 = .ok (.iconst (-1), 1) := by decide +kernel
theorem dX10_readNumber_21 : decode cX10_readNumber 21 = .ok (.ireturn, 1) := by decide +kernel
theorem dX10_readNumber_22 : decode cX10_readNumber 22 = .ok (.aload_n 0, 1) := by decide +kernel
theorem dX10_readNumber_23 : decode cX10_readNumber 23 = .ok (.getfield 22, 3) := by decide +kernel
theorem dX10_readNumber_26 : decode cX10_readNumber 26 = .ok (.istore_n 2, 1) := by decide +kernel
theorem dX10_readNumber_27 : decode cX10_readNumber 27 = .ok (.iconst 0, 1) := by decide +kernel
theorem dX10_readNumber_28 : decode cX10_readNumber 28 = .ok (.istore_n 3, 1) := by decide +kernel
theorem dX10_readNumber_29 : decode cX10_readNumber 29 = .ok (.aload_n 0, 1) := by decide +kernel
theorem dX10_readNumber_30 : decode cX10_readNumber 30 = .ok (.getfield 22, 3) := by decide +kernel
theorem dX10_readNumber_33 : decode cX10_readNumber 33 = .ok (.aload_n 0, 1) := by decide +kernel
theorem dX10_readNumber_34 : decode cX10_readNumber 34 = .ok (.getfield 19, 3) := by decide +kernel
theorem dX10_readNumber_37 : decode cX10_readNumber 37 = .ok (.if_icmp .ge 61, 3) := by decide +kernel
theorem dX10_readNumber_40 : decode cX10_readNumber 40 = .ok (.aload_n 0, 1) := by decide +kernel
theorem dX10_readNumber_41 : decode cX10_readNumber 41 = .ok (.invokevirtual 32, 3) := by decide +kernel
theorem dX10_readNumber_44 : decode cX10_readNumber 44 = .ok (.invokestatic 36, 3) := by decide +kernel
theorem dX10_readNumber_47 : decode cX10_readNumber 47 = .ok (.ifCond .eq 51, 3) := by decide +kernel
theorem dX10_readNumber_50 : decode cX10_readNumber 50 = .ok (.aload_n 0, 1) := by decide +kernel
theorem dX10_readNumber_51 : decode cX10_readNumber 51 = .ok (.getfield 22, 3) := by decide +kernel
theorem dX10_readNumber_54 : decode cX10_readNumber 54 = .ok (.iload_n 2, 1) := by decide +kernel
theorem dX10_readNumber_55 : decode cX10_readNumber 55 = .ok (.isub, 1) := by decide +kernel
theorem dX10_readNumber_56 : decode cX10_readNumber 56 = .ok (.iload_n 1, 1) := by decide +kernel
theorem dX10_readNumber_57 : decode cX10_readNumber 57 = .ok (.if_icmp .lt 15, 3) := by decide +kernel
theorem dX10_readNumber_60 : decode cX10_readNumber 60 = .ok (.aload_n 0, 1) := by decide +kernel
theorem dX10_readNumber_61 : decode cX10_readNumber 61 = .ok (.iconst 2, 1) := by decide +kernel
theorem dX10_readNumber_62 : decode cX10_readNumber 62 = .ok (.aload_n 0, 1) := by decide +kernel
theorem dX10_readNumber_63 : decode cX10_readNumber 63 = .ok (.getfield 22, 3) := by decide +kernel
theorem dX10_readNumber_66 : decode cX10_readNumber 66 = .ok (.invokevirtual 28, 3) := by decide +kernel
theorem dX10_readNumber_69 : decode cX10_readNumber 69 = .ok (.pop, 1) := by decide +kernel
theorem dX10_readNumber_70 : decode cX10_readNumber 70 = .ok (.iconst (-1), 1) := by decide +kernel
theorem dX10_readNumber_71 : decode cX10_readNumber 71 = .ok (.ireturn, 1) := by decide +kernel
theorem dX10_readNumber_72 : decode cX10_readNumber 72 = .ok (.bipush 10, 2) := by decide +kernel
theorem dX10_readNumber_74 : decode cX10_readNumber 74 = .ok (.iload_n 3, 1) := by decide +kernel
theorem dX10_readNumber_75 : decode cX10_readNumber 75 = .ok (.imul, 1) := by decide +kernel
theorem dX10_readNumber_76 : decode cX10_readNumber 76 = .ok (.aload_n 0, 1) := by decide +kernel
theorem dX10_readNumber_77 : decode cX10_readNumber 77 = .ok (.invokevirtual 32, 3) := by decide +kernel
theorem dX10_readNumber_80 : decode cX10_readNumber 80 = .ok (.bipush 48, 2) := by decide +kernel
theorem dX10_readNumber_82 : decode cX10_readNumber 82 = .ok (.isub, 1) := by decide +kernel
theorem dX10_readNumber_83 : decode cX10_readNumber 83 = .ok (.iadd, 1) := by decide +kernel
theorem dX10_readNumber_84 : decode cX10_readNumber 84 = .ok (.istore_n 3, 1) := by decide +kernel
theorem dX10_readNumber_85 : decode cX10_readNumber 85 = .ok (.aload_n 0, 1) := by decide +kernel
theorem dX10_readNumber_86 : decode cX10_readNumber 86 = .ok (.dup, 1) := by decide +kernel
theorem dX10_readNumber_87 : decode cX10_readNumber 87 = .ok (.getfield 22, 3) := by decide +kernel
theorem dX10_readNumber_90 : decode cX10_readNumber 90 = .ok (.iconst 1, 1) := by decide +kernel
theorem dX10_readNumber_91 : decode cX10_readNumber 91 = .ok (.iadd, 1) := by decide +kernel
theorem dX10_readNumber_92 : decode cX10_readNumber 92 = .ok (.putfield 22, 3) := by decide +kernel
theorem dX10_readNumber_95 : decode cX10_readNumber 95 = .ok (.goto (-66), 3) := by decide +kernel
theorem dX10_readNumber_98 : decode cX10_readNumber 98 = .ok (.iload_n 3, 1) := by decide +kernel
theorem dX10_readNumber_99 : decode cX10_readNumber 99 = .ok (.ireturn, 1) := by decide +kernel
theorem dX10_isDigit_0 : decode cX10_isDigit 0 = .ok (.iload_n 0, 1) := by decide +kernel
theorem dX10_isDigit_1 : decode cX10_isDigit 1 = .ok (.bipush 48, 2) := by decide +kernel
theorem dX10_isDigit_3 : decode cX10_isDigit 3 = .ok (.if_icmp .lt 13, 3) := by decide +kernel
theorem dX10_isDigit_6 : decode cX10_isDigit 6 = .ok (.iload_n 0, 1) := by decide +kernel
theorem dX10_isDigit_7 : decode cX10_isDigit 7 = .ok (.bipush 57, 2) := by decide +kernel
theorem dX10_isDigit_9 : decode cX10_isDigit 9 = .ok (.if_icmp .gt 7, 3) := by decide +kernel
theorem dX10_isDigit_12 : decode cX10_isDigit 12 = .ok (.iconst 1, 1) := by decide +kernel
theorem dX10_isDigit_13 : decode cX10_isDigit 13 = .ok (.goto 4, 3) := by decide +kernel
theorem dX10_isDigit_16 : decode cX10_isDigit 16 = .ok (.iconst 0, 1) := by decide +kernel
theorem dX10_isDigit_17 : decode cX10_isDigit 17 = .ok (.ireturn, 1) := by decide +kernel
theorem dX10_isFear_0 : decode cX10_isFear 0 = .ok (.iload_n 0, 1) := by decide +kernel
theorem dX10_isFear_1 : decode cX10_isFear 1 = .ok (.bipush 97, 2) := by decide +kernel
theorem dX10_isFear_3 : decode cX10_isFear 3 = .ok (.if_icmp .lt 13, 3) := by decide +kernel
theorem dX10_isFear_6 : decode cX10_isFear 6 = .ok (.iload_n 0, 1) := by decide +kernel
theorem dX10_isFear_7 : decode cX10_isFear 7 = .ok (.bipush 113, 2) := by decide +kernel
theorem dX10_isFear_9 : decode cX10_isFear 9 = .ok (.if_icmp .ge 7, 3) := by decide +kernel
theorem dX10_isFear_12 : decode cX10_isFear 12 = .ok (.iconst 1, 1) := by decide +kernel
theorem dX10_isFear_13 : decode cX10_isFear 13 = .ok (.goto 4, 3) := by decide +kernel
theorem dX10_isFear_16 : decode cX10_isFear 16 = .ok (.iconst 0, 1) := by decide +kernel
theorem dX10_isFear_17 : decode cX10_isFear 17 = .ok (.ireturn, 1) := by decide +kernel
theorem dX11_init_0 : decode cX11_init 0 = .ok (.aload_n 0, 1) := by decide +kernel
theorem dX11_init_1 : decode cX11_init 1 = .ok (.invokespecial 3, 3) := by decide +kernel
theorem dX11_init_4 : decode cX11_init 4 = .ok (.aload_n 0, 1) := by decide +kernel
theorem dX11_init_5 : decode cX11_init 5 = .ok (.new 9, 3) := by decide +kernel
theorem dX11_init_8 : decode cX11_init 8 = .ok (.dup, 1) := by decide +kernel
theorem dX11_init_9 : decode cX11_init 9 = .ok (.invokespecial 11, 3) := by decide +kernel
theorem dX11_init_12 : decode cX11_init 12 = .ok (.putfield 12, 3) := by decide +kernel
theorem dX11_init_15 : decode cX11_init 15 = .ok (.aload_n 0, 1) := by decide +kernel
theorem dX11_init_16 : decode cX11_init 16 = .ok (.new 16, 3) := by decide +kernel
theorem dX11_init_19 : decode cX11_init 19 = .ok (.dup, 1) := by decide +kernel
theorem dX11_init_20 : decode cX11_init 20 = .ok (.invokespecial 18, 3) := by decide +kernel
theorem dX11_init_23 : decode cX11_init 23 = .ok (.putfield 19, 3) := by decide +kernel
theorem dX11_init_26 : decode cX11_init 26 = .ok (.aload_n 0, 1) := by decide +kernel
theorem dX11_init_27 : decode cX11_init 27 = .ok (.new 16, 3) := by decide +kernel
theorem dX11_init_30 : decode cX11_init 30 = .ok (.dup, 1) := by decide +kernel
theorem dX11_init_31 : decode cX11_init 31 = .ok (.invokespecial 18, 3) := by decide +kernel
theorem dX11_init_34 : decode cX11_init 34 = .ok (.putfield 23, 3) := by decide +kernel
theorem dX11_init_37 : decode cX11_init 37 = .ok (.aload_n 0, 1) := by decide +kernel
theorem dX11_init_38 : decode cX11_init 38 = .ok (.new 16, 3) := by decide +kernel
theorem dX11_init_41 : decode cX11_init 41 = .ok (.dup, 1) := by decide +kernel
theorem dX11_init_42 : decode cX11_init 42 = .ok (.invokespecial 18, 3) := by decide +kernel
theorem dX11_init_45 : decode cX11_init 45 = .ok (.putfield 26, 3) := by decide +kernel
theorem dX11_init_48 : decode cX11_init 48 = .ok (.aload_n 0, 1) := by decide +kernel
theorem dX11_init_49 : decode cX11_init 49 = .ok (.iconst 0, 1) := by decide +kernel
theorem dX11_init_50 : decode cX11_init 50 = .ok (.putfield 29, 3) := by decide +kernel
theorem dX11_init_53 : decode cX11_init 53 = .ok (.aload_n 0, 1) := by decide +kernel
theorem dX11_init_54 : decode cX11_init 54 = .ok (.new 33, 3) := by decide +kernel
theorem dX11_init_57 : decode cX11_init 57 = .ok (.dup, 1) := by decide +kernel
theorem dX11_init_58 : decode cX11_init 58 = .ok (.invokespecial 35, 3) := by decide +kernel
theorem dX11_init_61 : decode cX11_init 61 = .ok (.putfield 36, 3) := by decide +kernel
theorem dX11_init_64 : decode cX11_init 64 = .ok (.aload_n 0, 1) := by decide +kernel
theorem dX11_init_65 : decode cX11_init 65 = .ok (.new 33, 3) := by decide +kernel
theorem dX11_init_68 : decode cX11_init 68 = .ok (.dup, 1) := by decide +kernel
theorem dX11_init_69 : decode cX11_init 69 = .ok (.invokespecial 35, 3) := by decide +kernel
theorem dX11_init_72 : decode cX11_init 72 = .ok (.putfield 40, 3) := by decide +kernel
theorem dX11_init_75 : decode cX11_init 75 = .ok (.aload_n 0, 1) := by decide +kernel
theorem dX11_init_76 : decode cX11_init 76 = .ok (.new 43, 3) := by decide +kernel
theorem dX11_init_79 : decode cX11_init 79 = .ok (.dup, 1) := by decide +kernel
theorem dX11_init_80 : decode cX11_init 80 = .ok (.invokespecial 45, 3) := by decide +kernel
theorem dX11_init_83 : decode cX11_init 83 = .ok (.putfield 46, 3) := by decide +kernel
theorem dX11_init_86 : decode cX11_init 86 = .ok (.aload_n 0, 1) := by decide +kernel
theorem dX11_init_87 : decode cX11_init 87 = .ok (.new 50, 3) := by decide +kernel
theorem dX11_init_90 : decode cX11_init 90 = .ok (.dup, 1) := by decide +kernel
theorem dX11_init_91 : decode cX11_init 91 = .ok (.invokespecial 52, 3) := by decide +kernel
theorem dX11_init_94 : decode cX11_init 94 = .ok (.putfield 53, 3) := by decide +kernel
theorem dX11_init_97 : decode cX11_init 97 = .ok (.aload_n 0, 1) := by decide +kernel
theorem dX11_init_98 : decode cX11_init 98 = .ok (.new 57, 3) := by decide +kernel
theorem dX11_init_101 : decode cX11_init 101 = .ok (.dup, 1) := by decide +kernel
theorem dX11_init_102 : decode cX11_init 102 = .ok (.invokespecial 59, 3) := by decide +kernel
theorem dX11_init_105 : decode cX11_init 105 = .ok (.putfield 60, 3) := by decide +kernel
theorem dX11_init_108 : decode cX11_init 108 = .ok (.aload_n 0, 1) := by decide +kernel
theorem dX11_init_109 : decode cX11_init 109 = .ok (.new 64, 3) := by decide +kernel
theorem dX11_init_112 : decode cX11_init 112 = .ok (.dup, 1) := by decide +kernel
theorem dX11_init_113 : decode cX11_init 113 = .ok (.invokespecial 66, 3) := by decide +kernel
theorem dX11_init_116 : decode cX11_init 116 = .ok (.putfield 67, 3) := by decide +kernel
theorem dX11_init_119 : decode cX11_init 119 = .ok (.return_, 1) := by decide +kernel
theorem dX11_feed_0 : decode cX11_feed 0 = .ok (.aload_n 0, 1) := by decide +kernel
theorem dX11_feed_1 : decode cX11_feed 1 = .ok (.getfield 12, 3) := by decide +kernel
theorem dX11_feed_4 : decode cX11_feed 4 = .ok (.getfield 71, 3) := by decide +kernel
theorem dX11_feed_7 : decode cX11_feed 7 = .ok (.sipush 240, 3) := by decide +kernel
theorem dX11_feed_10 : decode cX11_feed 10 = .ok (.if_icmp .le 5, 3) := by decide +kernel
theorem dX11_feed_13 : decode cX11_feed 13 = .ok (.iconst (-1), 1) := by decide +kernel
theorem dX11_feed_14 : decode cX11_feed 14 = .ok (.ireturn, 1) := by decide +kernel
theorem dX11_feed_15 : decode cX11_feed 15 = .ok (.aload_n 0, 1) := by decide +kernel
theorem dX11_feed_16 : decode cX11_feed 16 = .ok (.getfield 12, 3) := by decide +kernel
theorem dX11_feed_19 : decode cX11_feed 19 = .ok (.iload_n 1, 1) := by decide +kernel
theorem dX11_feed_20 : decode cX11_feed 20 = .ok (.invokevirtual 75, 3) := by decide +kernel
theorem dX11_feed_23 : decode cX11_feed 23 = .ok (.aload_n 0, 1) := by decide +kernel
theorem dX11_feed_24 : decode cX11_feed 24 = .ok (.getfield 12, 3) := by decide +kernel
theorem dX11_feed_27 : decode cX11_feed 27 = .ok (.iload_n 2, 1) := by decide +kernel
theorem dX11_feed_28 : decode cX11_feed 28 = .ok (.invokevirtual 75, 3) := by decide +kernel
theorem dX11_feed_31 : decode cX11_feed 31 = .ok (.aload_n 0, 1) := by decide +kernel
theorem dX11_feed_32 : decode cX11_feed 32 = .ok (.getfield 12, 3) := by decide +kernel
theorem dX11_feed_35 : decode cX11_feed 35 = .ok (.iload_n 3, 1) := by decide +kernel
theorem dX11_feed_36 : decode cX11_feed 36 = .ok (.invokevirtual 75, 3) := by decide +kernel
theorem dX11_feed_39 : decode cX11_feed 39 = .ok (.aload_n 0, 1) := by decide +kernel
theorem dX11_feed_40 : decode cX11_feed 40 = .ok (.getfield 12, 3) := by decide +kernel
theorem dX11_feed_43 : decode cX11_feed 43 = .ok (.iload 4, 2) := by decide +kernel
theorem dX11_feed_45 : decode cX11_feed 45 = .ok (.invokevirtual 75, 3) := by decide +kernel
theorem dX11_feed_48 : decode cX11_feed 48 = .ok (.aload_n 0, 1) := by decide +kernel
theorem dX11_feed_49 : decode cX11_feed 49 = .ok (.getfield 12, 3) := by decide +kernel
theorem dX11_feed_52 : decode cX11_feed 52 = .ok (.iload 5, 2) := by decide +kernel
theorem dX11_feed_54 : decode cX11_feed 54 = .ok (.invokevirtual 75, 3) := by decide +kernel
theorem dX11_feed_57 : decode cX11_feed 57 = .ok (.aload_n 0, 1) := by decide +kernel
theorem dX11_feed_58 : decode cX11_feed 58 = .ok (.getfield 12, 3) := by decide +kernel
theorem dX11_feed_61 : decode cX11_feed 61 = .ok (.getfield 71, 3) := by decide +kernel
theorem dX11_feed_64 : decode cX11_feed 64 = .ok (.ireturn, 1) := by decide +kernel
theorem dX11_law_0 : decode cX11_law 0 = .ok (.aload_n 0, 1) := by decide +kernel
theorem dX11_law_1 : decode cX11_law 1 = .ok (.getfield 12, 3) := by decide +kernel
theorem dX11_law_4 : decode cX11_law 4 = .ok (.iload_n 1, 1) := by decide +kernel
theorem dX11_law_5 : decode cX11_law 5 = .ok (.iconst 1, 1) := by decide +kernel
theorem dX11_law_6 : decode cX11_law 6 = .ok (.sipush 240, 3) := by decide +kernel
theorem dX11_law_9 : decode cX11_law 9 = .ok (.invokevirtual 79, 3) := by decide +kernel
theorem dX11_law_12 : decode cX11_law 12 = .ok (.ifCond .ne 5, 3) := by decide +kernel
theorem dX11_law_15 : decode cX11_law 15 = .ok (.iconst (-1), 1) := by decide +kernel
theorem dX11_law_16 : decode cX11_law 16 = .ok (.ireturn, 1) := by decide +kernel
theorem dX11_law_17 : decode cX11_law 17 = .ok (.aload_n 0, 1) := by decide +kernel
theorem dX11_law_18 : decode cX11_law 18 = .ok (.getfield 12, 3) := by decide +kernel
theorem dX11_law_21 : decode cX11_law 21 = .ok (.iload_n 1, 1) := by decide +kernel
theorem dX11_law_22 : decode cX11_law 22 = .ok (.invokevirtual 83, 3) := by decide +kernel
theorem dX11_law_25 : decode cX11_law 25 = .ok (.aload_n 0, 1) := by decide +kernel
theorem dX11_law_26 : decode cX11_law 26 = .ok (.getfield 40, 3) := by decide +kernel
theorem dX11_law_29 : decode cX11_law 29 = .ok (.invokevirtual 86, 3) := by decide +kernel
theorem dX11_law_32 : decode cX11_law 32 = .ok (.new 89, 3) := by decide +kernel
theorem dX11_law_35 : decode cX11_law 35 = .ok (.dup, 1) := by decide +kernel
theorem dX11_law_36 : decode cX11_law 36 = .ok (.aload_n 0, 1) := by decide +kernel
theorem dX11_law_37 : decode cX11_law 37 = .ok (.getfield 12, 3) := by decide +kernel
theorem dX11_law_40 : decode cX11_law 40 = .ok (.aload_n 0, 1) := by decide +kernel
theorem dX11_law_41 : decode cX11_law 41 = .ok (.getfield 40, 3) := by decide +kernel
theorem dX11_law_44 : decode cX11_law 44 = .ok (.invokespecial 91, 3) := by decide +kernel
theorem dX11_law_47 : decode cX11_law 47 = .ok (.bipush 16, 2) := by decide +kernel
theorem dX11_law_49 : decode cX11_law 49 = .ok (.invokevirtual 94, 3) := by decide +kernel
theorem dX11_law_52 : decode cX11_law 52 = .ok (.istore_n 2, 1) := by decide +kernel
theorem dX11_law_53 : decode cX11_law 53 = .ok (.iload_n 2, 1) := by decide +kernel
theorem dX11_law_54 : decode cX11_law 54 = .ok (.ifCond .le 21, 3) := by decide +kernel
theorem dX11_law_57 : decode cX11_law 57 = .ok (.aload_n 0, 1) := by decide +kernel
theorem dX11_law_58 : decode cX11_law 58 = .ok (.getfield 36, 3) := by decide +kernel
theorem dX11_law_61 : decode cX11_law 61 = .ok (.astore_n 3, 1) := by decide +kernel
theorem dX11_law_62 : decode cX11_law 62 = .ok (.aload_n 0, 1) := by decide +kernel
theorem dX11_law_63 : decode cX11_law 63 = .ok (.aload_n 0, 1) := by decide +kernel
theorem dX11_law_64 : decode cX11_law 64 = .ok (.getfield 40, 3) := by decide +kernel
theorem dX11_law_67 : decode cX11_law 67 = .ok (.putfield 36, 3) := by decide +kernel
theorem dX11_law_70 : decode cX11_law 70 = .ok (.aload_n 0, 1) := by decide +kernel
theorem dX11_law_71 : decode cX11_law 71 = .ok (.aload_n 3, 1) := by decide +kernel
theorem dX11_law_72 : decode cX11_law 72 = .ok (.putfield 40, 3) := by decide +kernel
theorem dX11_law_75 : decode cX11_law 75 = .ok (.iload_n 2, 1) := by decide +kernel
theorem dX11_law_76 : decode cX11_law 76 = .ok (.ireturn, 1) := by decide +kernel
theorem dX11_dreads_0 : decode cX11_dreads 0 = .ok (.iload_n 1, 1) := by decide +kernel
theorem dX11_dreads_1 : decode cX11_dreads 1 = .ok (.ifCond .lt 23, 3) := by decide +kernel
theorem dX11_dreads_4 : decode cX11_dreads 4 = .ok (.iload_n 1, 1) := by decide +kernel
theorem dX11_dreads_5 : decode cX11_dreads 5 = .ok (.bipush 12, 2) := by decide +kernel
theorem dX11_dreads_7 : decode cX11_dreads 7 = .ok (.if_icmp .ge 17, 3) := by decide +kernel
theorem dX11_dreads_10 : decode cX11_dreads 10 = .ok (.aload_n 0, 1) := by decide +kernel
theorem dX11_dreads_11 : decode cX11_dreads 11 = .ok (.getfield 12, 3) := by decide +kernel
theorem dX11_dreads_14 : decode cX11_dreads 14 = .ok (.iload_n 2, 1) := by decide +kernel
theorem dX11_dreads_15 : decode cX11_dreads 15 = .ok (.iconst 1, 1) := by decide +kernel
theorem dX11_dreads_16 : decode cX11_dreads 16 = .ok (.bipush 120, 2) := by decide +kernel
theorem dX11_dreads_18 : decode cX11_dreads 18 = .ok (.invokevirtual 79, 3) := by decide +kernel
theorem dX11_dreads_21 : decode cX11_dreads 21 = .ok (.ifCond .ne 5, 3) := by decide +kernel
theorem dX11_dreads_24 : decode cX11_dreads 24 = .ok (.iconst (-1), 1) := by decide +kernel
theorem dX11_dreads_25 : decode cX11_dreads 25 = .ok (.ireturn, 1) := by decide +kernel
theorem dX11_dreads_26 : decode cX11_dreads 26 = .ok (.aload_n 0, 1) := by decide +kernel
theorem dX11_dreads_27 : decode cX11_dreads 27 = .ok (.getfield 12, 3) := by decide +kernel
theorem dX11_dreads_30 : decode cX11_dreads 30 = .ok (.iload_n 2, 1) := by decide +kernel
theorem dX11_dreads_31 : decode cX11_dreads 31 = .ok (.invokevirtual 83, 3) := by decide +kernel
theorem dX11_dreads_34 : decode cX11_dreads 34 = .ok (.aload_n 0, 1) := by decide +kernel
theorem dX11_dreads_35 : decode cX11_dreads 35 = .ok (.getfield 23, 3) := by decide +kernel
theorem dX11_dreads_38 : decode cX11_dreads 38 = .ok (.aload_n 0, 1) := by decide +kernel
theorem dX11_dreads_39 : decode cX11_dreads 39 = .ok (.getfield 19, 3) := by decide +kernel
theorem dX11_dreads_42 : decode cX11_dreads 42 = .ok (.invokevirtual 98, 3) := by decide +kernel
theorem dX11_dreads_45 : decode cX11_dreads 45 = .ok (.new 102, 3) := by decide +kernel
theorem dX11_dreads_48 : decode cX11_dreads 48 = .ok (.dup, 1) := by decide +kernel
theorem dX11_dreads_49 : decode cX11_dreads 49 = .ok (.aload_n 0, 1) := by decide +kernel
theorem dX11_dreads_50 : decode cX11_dreads 50 = .ok (.getfield 12, 3) := by decide +kernel
theorem dX11_dreads_53 : decode cX11_dreads 53 = .ok (.aload_n 0, 1) := by decide +kernel
theorem dX11_dreads_54 : decode cX11_dreads 54 = .ok (.getfield 23, 3) := by decide +kernel
theorem dX11_dreads_57 : decode cX11_dreads 57 = .ok (.iload_n 1, 1) := by decide +kernel
theorem dX11_dreads_58 : decode cX11_dreads 58 = .ok (.invokespecial 104, 3) := by decide +kernel
theorem dX11_dreads_61 : decode cX11_dreads 61 = .ok (.bipush 20, 2) := by decide +kernel
theorem dX11_dreads_63 : decode cX11_dreads 63 = .ok (.invokevirtual 107, 3) := by decide +kernel
theorem dX11_dreads_66 : decode cX11_dreads 66 = .ok (.istore_n 3, 1) := by decide +kernel
theorem dX11_dreads_67 : decode cX11_dreads 67 = .ok (.iload_n 3, 1) := by decide +kernel
theorem dX11_dreads_68 : decode cX11_dreads 68 = .ok (.ifCond .le 14, 3) := by decide +kernel
theorem dX11_dreads_71 : decode cX11_dreads 71 = .ok (.aload_n 0, 1) := by decide +kernel
theorem dX11_dreads_72 : decode cX11_dreads 72 = .ok (.getfield 19, 3) := by decide +kernel
theorem dX11_dreads_75 : decode cX11_dreads 75 = .ok (.aload_n 0, 1) := by decide +kernel
theorem dX11_dreads_76 : decode cX11_dreads 76 = .ok (.getfield 23, 3) := by decide +kernel
theorem dX11_dreads_79 : decode cX11_dreads 79 = .ok (.invokevirtual 98, 3) := by decide +kernel
theorem dX11_dreads_82 : decode cX11_dreads 82 = .ok (.iload_n 3, 1) := by decide +kernel
theorem dX11_dreads_83 : decode cX11_dreads 83 = .ok (.ireturn, 1) := by decide +kernel
theorem dX11_orders_0 : decode cX11_orders 0 = .ok (.aload_n 0, 1) := by decide +kernel
theorem dX11_orders_1 : decode cX11_orders 1 = .ok (.getfield 12, 3) := by decide +kernel
theorem dX11_orders_4 : decode cX11_orders 4 = .ok (.iload_n 1, 1) := by decide +kernel
theorem dX11_orders_5 : decode cX11_orders 5 = .ok (.iconst 1, 1) := by decide +kernel
theorem dX11_orders_6 : decode cX11_orders 6 = .ok (.bipush 120, 2) := by decide +kernel
theorem dX11_orders_8 : decode cX11_orders 8 = .ok (.invokevirtual 79, 3) := by decide +kernel
theorem dX11_orders_11 : decode cX11_orders 11 = .ok (.ifCond .ne 5, 3) := by decide +kernel
theorem dX11_orders_14 : decode cX11_orders 14 = .ok (.iconst (-1), 1) := by decide +kernel
theorem dX11_orders_15 : decode cX11_orders 15 = .ok (.ireturn, 1) := by decide +kernel
theorem dX11_orders_16 : decode cX11_orders 16 = .ok (.aload_n 0, 1) := by decide +kernel
theorem dX11_orders_17 : decode cX11_orders 17 = .ok (.getfield 12, 3) := by decide +kernel
theorem dX11_orders_20 : decode cX11_orders 20 = .ok (.iload_n 1, 1) := by decide +kernel
theorem dX11_orders_21 : decode cX11_orders 21 = .ok (.invokevirtual 83, 3) := by decide +kernel
theorem dX11_orders_24 : decode cX11_orders 24 = .ok (.aload_n 0, 1) := by decide +kernel
theorem dX11_orders_25 : decode cX11_orders 25 = .ok (.getfield 23, 3) := by decide +kernel
theorem dX11_orders_28 : decode cX11_orders 28 = .ok (.aload_n 0, 1) := by decide +kernel
theorem dX11_orders_29 : decode cX11_orders 29 = .ok (.getfield 19, 3) := by decide +kernel
theorem dX11_orders_32 : decode cX11_orders 32 = .ok (.invokevirtual 98, 3) := by decide +kernel
theorem dX11_orders_35 : decode cX11_orders 35 = .ok (.new 108, 3) := by decide +kernel
theorem dX11_orders_38 : decode cX11_orders 38 = .ok (.dup, 1) := by decide +kernel
theorem dX11_orders_39 : decode cX11_orders 39 = .ok (.aload_n 0, 1) := by decide +kernel
theorem dX11_orders_40 : decode cX11_orders 40 = .ok (.getfield 12, 3) := by decide +kernel
theorem dX11_orders_43 : decode cX11_orders 43 = .ok (.aload_n 0, 1) := by decide +kernel
theorem dX11_orders_44 : decode cX11_orders 44 = .ok (.getfield 23, 3) := by decide +kernel
theorem dX11_orders_47 : decode cX11_orders 47 = .ok (.invokespecial 110, 3) := by decide +kernel
theorem dX11_orders_50 : decode cX11_orders 50 = .ok (.bipush 16, 2) := by decide +kernel
theorem dX11_orders_52 : decode cX11_orders 52 = .ok (.invokevirtual 113, 3) := by decide +kernel
theorem dX11_orders_55 : decode cX11_orders 55 = .ok (.istore_n 2, 1) := by decide +kernel
theorem dX11_orders_56 : decode cX11_orders 56 = .ok (.iload_n 2, 1) := by decide +kernel
theorem dX11_orders_57 : decode cX11_orders 57 = .ok (.ifCond .le 14, 3) := by decide +kernel
theorem dX11_orders_60 : decode cX11_orders 60 = .ok (.aload_n 0, 1) := by decide +kernel
theorem dX11_orders_61 : decode cX11_orders 61 = .ok (.getfield 19, 3) := by decide +kernel
theorem dX11_orders_64 : decode cX11_orders 64 = .ok (.aload_n 0, 1) := by decide +kernel
theorem dX11_orders_65 : decode cX11_orders 65 = .ok (.getfield 23, 3) := by decide +kernel
theorem dX11_orders_68 : decode cX11_orders 68 = .ok (.invokevirtual 98, 3) := by decide +kernel
theorem dX11_orders_71 : decode cX11_orders 71 = .ok (.iload_n 2, 1) := by decide +kernel
theorem dX11_orders_72 : decode cX11_orders 72 = .ok (.ireturn, 1) := by decide +kernel
theorem dX11_nights_0 : decode cX11_nights 0 = .ok (.iload_n 1, 1) := by decide +kernel
theorem dX11_nights_1 : decode cX11_nights 1 = .ok (.iconst 1, 1) := by decide +kernel
theorem dX11_nights_2 : decode cX11_nights 2 = .ok (.if_icmp .lt 9, 3) := by decide +kernel
theorem dX11_nights_5 : decode cX11_nights 5 = .ok (.iload_n 1, 1) := by decide +kernel
theorem dX11_nights_6 : decode cX11_nights 6 = .ok (.bipush 100, 2) := by decide +kernel
theorem dX11_nights_8 : decode cX11_nights 8 = .ok (.if_icmp .le 5, 3) := by decide +kernel
theorem dX11_nights_11 : decode cX11_nights 11 = .ok (.iconst (-1), 1) := by decide +kernel
theorem dX11_nights_12 : decode cX11_nights 12 = .ok (.ireturn, 1) := by decide +kernel
theorem dX11_nights_13 : decode cX11_nights 13 = .ok (.aload_n 0, 1) := by decide +kernel
theorem dX11_nights_14 : decode cX11_nights 14 = .ok (.getfield 46, 3) := by decide +kernel
theorem dX11_nights_17 : decode cX11_nights 17 = .ok (.aload_n 0, 1) := by decide +kernel
theorem dX11_nights_18 : decode cX11_nights 18 = .ok (.getfield 19, 3) := by decide +kernel
theorem dX11_nights_21 : decode cX11_nights 21 = .ok (.aload_n 0, 1) := by decide +kernel
theorem dX11_nights_22 : decode cX11_nights 22 = .ok (.getfield 36, 3) := by decide +kernel
theorem dX11_nights_25 : decode cX11_nights 25 = .ok (.iload_n 1, 1) := by decide +kernel
theorem dX11_nights_26 : decode cX11_nights 26 = .ok (.invokevirtual 114, 3) := by decide +kernel
theorem dX11_nights_29 : decode cX11_nights 29 = .ok (.aload_n 0, 1) := by decide +kernel
theorem dX11_nights_30 : decode cX11_nights 30 = .ok (.getfield 46, 3) := by decide +kernel
theorem dX11_nights_33 : decode cX11_nights 33 = .ok (.getfield 118, 3) := by decide +kernel
theorem dX11_nights_36 : decode cX11_nights 36 = .ok (.ireturn, 1) := by decide +kernel
theorem dX11_tried_0 : decode cX11_tried 0 = .ok (.iload_n 1, 1) := by decide +kernel
theorem dX11_tried_1 : decode cX11_tried 1 = .ok (.iconst 1, 1) := by decide +kernel
theorem dX11_tried_2 : decode cX11_tried 2 = .ok (.if_icmp .lt 17, 3) := by decide +kernel
theorem dX11_tried_5 : decode cX11_tried 5 = .ok (.iload_n 1, 1) := by decide +kernel
theorem dX11_tried_6 : decode cX11_tried 6 = .ok (.bipush 100, 2) := by decide +kernel
theorem dX11_tried_8 : decode cX11_tried 8 = .ok (.if_icmp .gt 11, 3) := by decide +kernel
theorem dX11_tried_11 : decode cX11_tried 11 = .ok (.aload_n 0, 1) := by decide +kernel
theorem dX11_tried_12 : decode cX11_tried 12 = .ok (.iload_n 2, 1) := by decide +kernel
theorem dX11_tried_13 : decode cX11_tried 13 = .ok (.invokevirtual 121, 3) := by decide +kernel
theorem dX11_tried_16 : decode cX11_tried 16 = .ok (.ifCond .ne 5, 3) := by decide +kernel
theorem dX11_tried_19 : decode cX11_tried 19 = .ok (.iconst (-1), 1) := by decide +kernel
theorem dX11_tried_20 : decode cX11_tried 20 = .ok (.ireturn, 1) := by decide +kernel
theorem dX11_tried_21 : decode cX11_tried 21 = .ok (.aload_n 0, 1) := by decide +kernel
theorem dX11_tried_22 : decode cX11_tried 22 = .ok (.getfield 23, 3) := by decide +kernel
theorem dX11_tried_25 : decode cX11_tried 25 = .ok (.aload_n 0, 1) := by decide +kernel
theorem dX11_tried_26 : decode cX11_tried 26 = .ok (.getfield 19, 3) := by decide +kernel
theorem dX11_tried_29 : decode cX11_tried 29 = .ok (.invokevirtual 98, 3) := by decide +kernel
theorem dX11_tried_32 : decode cX11_tried 32 = .ok (.aload_n 0, 1) := by decide +kernel
theorem dX11_tried_33 : decode cX11_tried 33 = .ok (.getfield 46, 3) := by decide +kernel
theorem dX11_tried_36 : decode cX11_tried 36 = .ok (.aload_n 0, 1) := by decide +kernel
theorem dX11_tried_37 : decode cX11_tried 37 = .ok (.getfield 23, 3) := by decide +kernel
theorem dX11_tried_40 : decode cX11_tried 40 = .ok (.aload_n 0, 1) := by decide +kernel
theorem dX11_tried_41 : decode cX11_tried 41 = .ok (.getfield 36, 3) := by decide +kernel
theorem dX11_tried_44 : decode cX11_tried 44 = .ok (.iload_n 1, 1) := by decide +kernel
theorem dX11_tried_45 : decode cX11_tried 45 = .ok (.invokevirtual 114, 3) := by decide +kernel
theorem dX11_tried_48 : decode cX11_tried 48 = .ok (.iload_n 2, 1) := by decide +kernel
theorem dX11_tried_49 : decode cX11_tried 49 = .ok (.ifCond .ne 11, 3) := by decide +kernel
theorem dX11_tried_52 : decode cX11_tried 52 = .ok (.aload_n 0, 1) := by decide +kernel
theorem dX11_tried_53 : decode cX11_tried 53 = .ok (.getfield 46, 3) := by decide +kernel
theorem dX11_tried_56 : decode cX11_tried 56 = .ok (.getfield 118, 3) := by decide +kernel
theorem dX11_tried_59 : decode cX11_tried 59 = .ok (.ireturn, 1) := by decide +kernel
theorem dX11_tried_60 : decode cX11_tried 60 = .ok (.iload_n 2, 1) := by decide +kernel
theorem dX11_tried_61 : decode cX11_tried 61 = .ok (.iconst 1, 1) := by decide +kernel
theorem dX11_tried_62 : decode cX11_tried 62 = .ok (.if_icmp .ne 11, 3) := by decide +kernel
theorem dX11_tried_65 : decode cX11_tried 65 = .ok (.aload_n 0, 1) := by decide +kernel
theorem dX11_tried_66 : decode cX11_tried 66 = .ok (.getfield 46, 3) := by decide +kernel
theorem dX11_tried_69 : decode cX11_tried 69 = .ok (.getfield 125, 3) := by decide +kernel
theorem dX11_tried_72 : decode cX11_tried 72 = .ok (.ireturn, 1) := by decide +kernel
theorem dX11_tried_73 : decode cX11_tried 73 = .ok (.iload_n 2, 1) := by decide +kernel
theorem dX11_tried_74 : decode cX11_tried 74 = .ok (.bipush 30, 2) := by decide +kernel
theorem dX11_tried_76 : decode cX11_tried 76 = .ok (.if_icmp .ge 15, 3) := by decide +kernel
theorem dX11_tried_79 : decode cX11_tried 79 = .ok (.aload_n 0, 1) := by decide +kernel
theorem dX11_tried_80 : decode cX11_tried 80 = .ok (.getfield 23, 3) := by decide +kernel
theorem dX11_tried_83 : decode cX11_tried 83 = .ok (.iload_n 2, 1) := by decide +kernel
theorem dX11_tried_84 : decode cX11_tried 84 = .ok (.bipush 10, 2) := by decide +kernel
theorem dX11_tried_86 : decode cX11_tried 86 = .ok (.isub, 1) := by decide +kernel
theorem dX11_tried_87 : decode cX11_tried 87 = .ok (.invokevirtual 128, 3) := by decide +kernel
theorem dX11_tried_90 : decode cX11_tried 90 = .ok (.ireturn, 1) := by decide +kernel
theorem dX11_tried_91 : decode cX11_tried 91 = .ok (.iload_n 2, 1) := by decide +kernel
theorem dX11_tried_92 : decode cX11_tried 92 = .ok (.bipush 50, 2) := by decide +kernel
theorem dX11_tried_94 : decode cX11_tried 94 = .ok (.if_icmp .ge 15, 3) := by decide +kernel
theorem dX11_tried_97 : decode cX11_tried 97 = .ok (.aload_n 0, 1) := by decide +kernel
theorem dX11_tried_98 : decode cX11_tried 98 = .ok (.getfield 23, 3) := by decide +kernel
theorem dX11_tried_101 : decode cX11_tried 101 = .ok (.iload_n 2, 1) := by decide +kernel
theorem dX11_tried_102 : decode cX11_tried 102 = .ok (.bipush 30, 2) := by decide +kernel
theorem dX11_tried_104 : decode cX11_tried 104 = .ok (.isub, 1) := by decide +kernel
theorem dX11_tried_105 : decode cX11_tried 105 = .ok (.invokevirtual 131, 3) := by decide +kernel
theorem dX11_tried_108 : decode cX11_tried 108 = .ok (.ireturn, 1) := by decide +kernel
theorem dX11_tried_109 : decode cX11_tried 109 = .ok (.aload_n 0, 1) := by decide +kernel
theorem dX11_tried_110 : decode cX11_tried 110 = .ok (.getfield 23, 3) := by decide +kernel
theorem dX11_tried_113 : decode cX11_tried 113 = .ok (.iload_n 2, 1) := by decide +kernel
theorem dX11_tried_114 : decode cX11_tried 114 = .ok (.bipush 50, 2) := by decide +kernel
theorem dX11_tried_116 : decode cX11_tried 116 = .ok (.isub, 1) := by decide +kernel
theorem dX11_tried_117 : decode cX11_tried 117 = .ok (.invokevirtual 134, 3) := by decide +kernel
theorem dX11_tried_120 : decode cX11_tried 120 = .ok (.ireturn, 1) := by decide +kernel
theorem dX11_canBeTried_0 : decode cX11_canBeTried 0 = .ok (.iload_n 1, 1) := by decide +kernel
theorem dX11_canBeTried_1 : decode cX11_canBeTried 1 = .ok (.ifCond .lt 9, 3) := by decide +kernel
theorem dX11_canBeTried_4 : decode cX11_canBeTried 4 = .ok (.iload_n 1, 1) := by decide +kernel
theorem dX11_canBeTried_5 : decode cX11_canBeTried 5 = .ok (.bipush 66, 2) := by decide +kernel
theorem dX11_canBeTried_7 : decode cX11_canBeTried 7 = .ok (.if_icmp .le 5, 3) := by decide +kernel
theorem dX11_canBeTried_10 : decode cX11_canBeTried 10 = .ok (.iconst 0, 1) := by decide +kernel
theorem dX11_canBeTried_11 : decode cX11_canBeTried 11 = .ok (.ireturn, 1) := by decide +kernel
theorem dX11_canBeTried_12 : decode cX11_canBeTried 12 = .ok (.iload_n 1, 1) := by decide +kernel
theorem dX11_canBeTried_13 : decode cX11_canBeTried 13 = .ok (.bipush 10, 2) := by decide +kernel
theorem dX11_canBeTried_15 : decode cX11_canBeTried 15 = .ok (.if_icmp .ge 14, 3) := by decide +kernel
theorem dX11_canBeTried_18 : decode cX11_canBeTried 18 = .ok (.iload_n 1, 1) := by decide +kernel
theorem dX11_canBeTried_19 : decode cX11_canBeTried 19 = .ok (.iconst 1, 1) := by decide +kernel
theorem dX11_canBeTried_20 : decode cX11_canBeTried 20 = .ok (.if_icmp .gt 7, 3) := by decide +kernel
theorem dX11_canBeTried_23 : decode cX11_canBeTried 23 = .ok (.iconst 1, 1) := by decide +kernel
theorem dX11_canBeTried_24 : decode cX11_canBeTried 24 = .ok (.goto 4, 3) := by decide +kernel
theorem dX11_canBeTried_27 : decode cX11_canBeTried 27 = .ok (.iconst 0, 1) := by decide +kernel
theorem dX11_canBeTried_28 : decode cX11_canBeTried 28 = .ok (.ireturn, 1) := by decide +kernel
theorem dX11_canBeTried_29 : decode cX11_canBeTried 29 = .ok (.iload_n 1, 1) := by decide +kernel
theorem dX11_canBeTried_30 : decode cX11_canBeTried 30 = .ok (.bipush 50, 2) := by decide +kernel
theorem dX11_canBeTried_32 : decode cX11_canBeTried 32 = .ok (.if_icmp .ge 28, 3) := by decide +kernel
theorem dX11_canBeTried_35 : decode cX11_canBeTried 35 = .ok (.aload_n 0, 1) := by decide +kernel
theorem dX11_canBeTried_36 : decode cX11_canBeTried 36 = .ok (.getfield 19, 3) := by decide +kernel
theorem dX11_canBeTried_39 : decode cX11_canBeTried 39 = .ok (.iload_n 1, 1) := by decide +kernel
theorem dX11_canBeTried_40 : decode cX11_canBeTried 40 = .ok (.bipush 30, 2) := by decide +kernel
theorem dX11_canBeTried_42 : decode cX11_canBeTried 42 = .ok (.if_icmp .ge 10, 3) := by decide +kernel
theorem dX11_canBeTried_45 : decode cX11_canBeTried 45 = .ok (.iload_n 1, 1) := by decide +kernel
theorem dX11_canBeTried_46 : decode cX11_canBeTried 46 = .ok (.bipush 10, 2) := by decide +kernel
theorem dX11_canBeTried_48 : decode cX11_canBeTried 48 = .ok (.isub, 1) := by decide +kernel
theorem dX11_canBeTried_49 : decode cX11_canBeTried 49 = .ok (.goto 7, 3) := by decide +kernel
theorem dX11_canBeTried_52 : decode cX11_canBeTried 52 = .ok (.iload_n 1, 1) := by decide +kernel
theorem dX11_canBeTried_53 : decode cX11_canBeTried 53 = .ok (.bipush 30, 2) := by decide +kernel
theorem dX11_canBeTried_55 : decode cX11_canBeTried 55 = .ok (.isub, 1) := by decide +kernel
theorem dX11_canBeTried_56 : decode cX11_canBeTried 56 = .ok (.invokevirtual 137, 3) := by decide +kernel
theorem dX11_canBeTried_59 : decode cX11_canBeTried 59 = .ok (.ireturn, 1) := by decide +kernel
theorem dX11_canBeTried_60 : decode cX11_canBeTried 60 = .ok (.aload_n 0, 1) := by decide +kernel
theorem dX11_canBeTried_61 : decode cX11_canBeTried 61 = .ok (.getfield 19, 3) := by decide +kernel
theorem dX11_canBeTried_64 : decode cX11_canBeTried 64 = .ok (.iload_n 1, 1) := by decide +kernel
theorem dX11_canBeTried_65 : decode cX11_canBeTried 65 = .ok (.bipush 50, 2) := by decide +kernel
theorem dX11_canBeTried_67 : decode cX11_canBeTried 67 = .ok (.isub, 1) := by decide +kernel
theorem dX11_canBeTried_68 : decode cX11_canBeTried 68 = .ok (.invokevirtual 140, 3) := by decide +kernel
theorem dX11_canBeTried_71 : decode cX11_canBeTried 71 = .ok (.ireturn, 1) := by decide +kernel
theorem dX11_personIs_0 : decode cX11_personIs 0 = .ok (.aload_n 0, 1) := by decide +kernel
theorem dX11_personIs_1 : decode cX11_personIs 1 = .ok (.getfield 19, 3) := by decide +kernel
theorem dX11_personIs_4 : decode cX11_personIs 4 = .ok (.iload_n 1, 1) := by decide +kernel
theorem dX11_personIs_5 : decode cX11_personIs 5 = .ok (.invokevirtual 137, 3) := by decide +kernel
theorem dX11_personIs_8 : decode cX11_personIs 8 = .ok (.ifCond .ne 5, 3) := by decide +kernel
theorem dX11_personIs_11 : decode cX11_personIs 11 = .ok (.iconst (-1), 1) := by decide +kernel
theorem dX11_personIs_12 : decode cX11_personIs 12 = .ok (.ireturn, 1) := by decide +kernel
theorem dX11_personIs_13 : decode cX11_personIs 13 = .ok (.iload_n 2, 1) := by decide +kernel
theorem dX11_personIs_14 : decode cX11_personIs 14 = .ok (.ifCond .lt 19, 3) := by decide +kernel
theorem dX11_personIs_17 : decode cX11_personIs 17 = .ok (.iload_n 2, 1) := by decide +kernel
theorem dX11_personIs_18 : decode cX11_personIs 18 = .ok (.bipush 16, 2) := by decide +kernel
theorem dX11_personIs_20 : decode cX11_personIs 20 = .ok (.if_icmp .ge 13, 3) := by decide +kernel
theorem dX11_personIs_23 : decode cX11_personIs 23 = .ok (.aload_n 0, 1) := by decide +kernel
theorem dX11_personIs_24 : decode cX11_personIs 24 = .ok (.getfield 19, 3) := by decide +kernel
theorem dX11_personIs_27 : decode cX11_personIs 27 = .ok (.iload_n 1, 1) := by decide +kernel
theorem dX11_personIs_28 : decode cX11_personIs 28 = .ok (.iload_n 2, 1) := by decide +kernel
theorem dX11_personIs_29 : decode cX11_personIs 29 = .ok (.invokevirtual 143, 3) := by decide +kernel
theorem dX11_personIs_32 : decode cX11_personIs 32 = .ok (.ireturn, 1) := by decide +kernel
theorem dX11_personIs_33 : decode cX11_personIs 33 = .ok (.iload_n 2, 1) := by decide +kernel
theorem dX11_personIs_34 : decode cX11_personIs 34 = .ok (.tableswitch 79 100 104 #[34, 43, 52, 61, 70], 34) := by decide +kernel
theorem dX11_personIs_68 : decode cX11_personIs 68 = .ok (.aload_n 0, 1) := by decide +kernel
theorem dX11_personIs_69 : decode cX11_personIs 69 = .ok (.getfield 19, 3) := by decide +kernel
theorem dX11_personIs_72 : decode cX11_personIs 72 = .ok (.iload_n 1, 1) := by decide +kernel
theorem dX11_personIs_73 : decode cX11_personIs 73 = .ok (.invokevirtual 128, 3) := by decide +kernel
theorem dX11_personIs_76 : decode cX11_personIs 76 = .ok (.ireturn, 1) := by decide +kernel
theorem dX11_personIs_77 : decode cX11_personIs 77 = .ok (.aload_n 0, 1) := by decide +kernel
theorem dX11_personIs_78 : decode cX11_personIs 78 = .ok (.getfield 19, 3) := by decide +kernel
theorem dX11_personIs_81 : decode cX11_personIs 81 = .ok (.iload_n 1, 1) := by decide +kernel
theorem dX11_personIs_82 : decode cX11_personIs 82 = .ok (.invokevirtual 131, 3) := by decide +kernel
theorem dX11_personIs_85 : decode cX11_personIs 85 = .ok (.ireturn, 1) := by decide +kernel
theorem dX11_personIs_86 : decode cX11_personIs 86 = .ok (.aload_n 0, 1) := by decide +kernel
theorem dX11_personIs_87 : decode cX11_personIs 87 = .ok (.getfield 19, 3) := by decide +kernel
theorem dX11_personIs_90 : decode cX11_personIs 90 = .ok (.iload_n 1, 1) := by decide +kernel
theorem dX11_personIs_91 : decode cX11_personIs 91 = .ok (.invokevirtual 147, 3) := by decide +kernel
theorem dX11_personIs_94 : decode cX11_personIs 94 = .ok (.ireturn, 1) := by decide +kernel
theorem dX11_personIs_95 : decode cX11_personIs 95 = .ok (.aload_n 0, 1) := by decide +kernel
theorem dX11_personIs_96 : decode cX11_personIs 96 = .ok (.getfield 19, 3) := by decide +kernel
theorem dX11_personIs_99 : decode cX11_personIs 99 = .ok (.iload_n 1, 1) := by decide +kernel
theorem dX11_personIs_100 : decode cX11_personIs 100 = .ok (.invokevirtual 150, 3) := by decide +kernel
theorem dX11_personIs_103 : decode cX11_personIs 103 = .ok (.ireturn, 1) := by decide +kernel
theorem dX11_personIs_104 : decode cX11_personIs 104 = .ok (.aload_n 0, 1) := by decide +kernel
theorem dX11_personIs_105 : decode cX11_personIs 105 = .ok (.getfield 19, 3) := by decide +kernel
theorem dX11_personIs_108 : decode cX11_personIs 108 = .ok (.iload_n 1, 1) := by decide +kernel
theorem dX11_personIs_109 : decode cX11_personIs 109 = .ok (.invokevirtual 153, 3) := by decide +kernel
theorem dX11_personIs_112 : decode cX11_personIs 112 = .ok (.ireturn, 1) := by decide +kernel
theorem dX11_personIs_113 : decode cX11_personIs 113 = .ok (.iconst (-1), 1) := by decide +kernel
theorem dX11_personIs_114 : decode cX11_personIs 114 = .ok (.ireturn, 1) := by decide +kernel
theorem dX11_doorIs_0 : decode cX11_doorIs 0 = .ok (.aload_n 0, 1) := by decide +kernel
theorem dX11_doorIs_1 : decode cX11_doorIs 1 = .ok (.getfield 19, 3) := by decide +kernel
theorem dX11_doorIs_4 : decode cX11_doorIs 4 = .ok (.iload_n 1, 1) := by decide +kernel
theorem dX11_doorIs_5 : decode cX11_doorIs 5 = .ok (.invokevirtual 140, 3) := by decide +kernel
theorem dX11_doorIs_8 : decode cX11_doorIs 8 = .ok (.ifCond .ne 5, 3) := by decide +kernel
theorem dX11_doorIs_11 : decode cX11_doorIs 11 = .ok (.iconst (-1), 1) := by decide +kernel
theorem dX11_doorIs_12 : decode cX11_doorIs 12 = .ok (.ireturn, 1) := by decide +kernel
theorem dX11_doorIs_13 : decode cX11_doorIs 13 = .ok (.iload_n 2, 1) := by decide +kernel
theorem dX11_doorIs_14 : decode cX11_doorIs 14 = .ok (.tableswitch 69 0 3 #[30, 40, 50, 60], 30) := by decide +kernel
theorem dX11_doorIs_44 : decode cX11_doorIs 44 = .ok (.aload_n 0, 1) := by decide +kernel
theorem dX11_doorIs_45 : decode cX11_doorIs 45 = .ok (.getfield 19, 3) := by decide +kernel
theorem dX11_doorIs_48 : decode cX11_doorIs 48 = .ok (.getfield 156, 3) := by decide +kernel
theorem dX11_doorIs_51 : decode cX11_doorIs 51 = .ok (.iload_n 1, 1) := by decide +kernel
theorem dX11_doorIs_52 : decode cX11_doorIs 52 = .ok (.iaload, 1) := by decide +kernel
theorem dX11_doorIs_53 : decode cX11_doorIs 53 = .ok (.ireturn, 1) := by decide +kernel
theorem dX11_doorIs_54 : decode cX11_doorIs 54 = .ok (.aload_n 0, 1) := by decide +kernel
theorem dX11_doorIs_55 : decode cX11_doorIs 55 = .ok (.getfield 19, 3) := by decide +kernel
theorem dX11_doorIs_58 : decode cX11_doorIs 58 = .ok (.getfield 160, 3) := by decide +kernel
theorem dX11_doorIs_61 : decode cX11_doorIs 61 = .ok (.iload_n 1, 1) := by decide +kernel
theorem dX11_doorIs_62 : decode cX11_doorIs 62 = .ok (.iaload, 1) := by decide +kernel
theorem dX11_doorIs_63 : decode cX11_doorIs 63 = .ok (.ireturn, 1) := by decide +kernel
theorem dX11_doorIs_64 : decode cX11_doorIs 64 = .ok (.aload_n 0, 1) := by decide +kernel
theorem dX11_doorIs_65 : decode cX11_doorIs 65 = .ok (.getfield 19, 3) := by decide +kernel
theorem dX11_doorIs_68 : decode cX11_doorIs 68 = .ok (.getfield 163, 3) := by decide +kernel
theorem dX11_doorIs_71 : decode cX11_doorIs 71 = .ok (.iload_n 1, 1) := by decide +kernel
theorem dX11_doorIs_72 : decode cX11_doorIs 72 = .ok (.iaload, 1) := by decide +kernel
theorem dX11_doorIs_73 : decode cX11_doorIs 73 = .ok (.ireturn, 1) := by decide +kernel
theorem dX11_doorIs_74 : decode cX11_doorIs 74 = .ok (.aload_n 0, 1) := by decide +kernel
theorem dX11_doorIs_75 : decode cX11_doorIs 75 = .ok (.getfield 19, 3) := by decide +kernel
theorem dX11_doorIs_78 : decode cX11_doorIs 78 = .ok (.iload_n 1, 1) := by decide +kernel
theorem dX11_doorIs_79 : decode cX11_doorIs 79 = .ok (.invokevirtual 166, 3) := by decide +kernel
theorem dX11_doorIs_82 : decode cX11_doorIs 82 = .ok (.ireturn, 1) := by decide +kernel
theorem dX11_doorIs_83 : decode cX11_doorIs 83 = .ok (.iconst (-1), 1) := by decide +kernel
theorem dX11_doorIs_84 : decode cX11_doorIs 84 = .ok (.ireturn, 1) := by decide +kernel
theorem dX11_taught_0 : decode cX11_taught 0 = .ok (.aload_n 0, 1) := by decide +kernel
theorem dX11_taught_1 : decode cX11_taught 1 = .ok (.getfield 19, 3) := by decide +kernel
theorem dX11_taught_4 : decode cX11_taught 4 = .ok (.iload_n 1, 1) := by decide +kernel
theorem dX11_taught_5 : decode cX11_taught 5 = .ok (.invokevirtual 137, 3) := by decide +kernel
theorem dX11_taught_8 : decode cX11_taught 8 = .ok (.ifCond .eq 14, 3) := by decide +kernel
theorem dX11_taught_11 : decode cX11_taught 11 = .ok (.aload_n 0, 1) := by decide +kernel
theorem dX11_taught_12 : decode cX11_taught 12 = .ok (.getfield 19, 3) := by decide +kernel
theorem dX11_taught_15 : decode cX11_taught 15 = .ok (.iload_n 2, 1) := by decide +kernel
theorem dX11_taught_16 : decode cX11_taught 16 = .ok (.invokevirtual 140, 3) := by decide +kernel
theorem dX11_taught_19 : decode cX11_taught 19 = .ok (.ifCond .ne 5, 3) := by decide +kernel
theorem dX11_taught_22 : decode cX11_taught 22 = .ok (.iconst (-1), 1) := by decide +kernel
theorem dX11_taught_23 : decode cX11_taught 23 = .ok (.ireturn, 1) := by decide +kernel
theorem dX11_taught_24 : decode cX11_taught 24 = .ok (.aload_n 0, 1) := by decide +kernel
theorem dX11_taught_25 : decode cX11_taught 25 = .ok (.getfield 19, 3) := by decide +kernel
theorem dX11_taught_28 : decode cX11_taught 28 = .ok (.iload_n 1, 1) := by decide +kernel
theorem dX11_taught_29 : decode cX11_taught 29 = .ok (.iload_n 2, 1) := by decide +kernel
theorem dX11_taught_30 : decode cX11_taught 30 = .ok (.invokestatic 169, 3) := by decide +kernel
theorem dX11_taught_33 : decode cX11_taught 33 = .ok (.ireturn, 1) := by decide +kernel
theorem dX11_crew_0 : decode cX11_crew 0 = .ok (.iload_n 1, 1) := by decide +kernel
theorem dX11_crew_1 : decode cX11_crew 1 = .ok (.ifCond .lt 8, 3) := by decide +kernel
theorem dX11_crew_4 : decode cX11_crew 4 = .ok (.iload_n 1, 1) := by decide +kernel
theorem dX11_crew_5 : decode cX11_crew 5 = .ok (.iconst 1, 1) := by decide +kernel
theorem dX11_crew_6 : decode cX11_crew 6 = .ok (.if_icmp .le 5, 3) := by decide +kernel
theorem dX11_crew_9 : decode cX11_crew 9 = .ok (.iconst (-1), 1) := by decide +kernel
theorem dX11_crew_10 : decode cX11_crew 10 = .ok (.ireturn, 1) := by decide +kernel
theorem dX11_crew_11 : decode cX11_crew 11 = .ok (.aload_n 0, 1) := by decide +kernel
theorem dX11_crew_12 : decode cX11_crew 12 = .ok (.getfield 53, 3) := by decide +kernel
theorem dX11_crew_15 : decode cX11_crew 15 = .ok (.aload_n 0, 1) := by decide +kernel
theorem dX11_crew_16 : decode cX11_crew 16 = .ok (.getfield 19, 3) := by decide +kernel
theorem dX11_crew_19 : decode cX11_crew 19 = .ok (.invokevirtual 173, 3) := by decide +kernel
theorem dX11_crew_22 : decode cX11_crew 22 = .ok (.istore_n 2, 1) := by decide +kernel
theorem dX11_crew_23 : decode cX11_crew 23 = .ok (.iload_n 2, 1) := by decide +kernel
theorem dX11_crew_24 : decode cX11_crew 24 = .ok (.ifCond .ge 6, 3) := by decide +kernel
theorem dX11_crew_27 : decode cX11_crew 27 = .ok (.bipush (-2), 2) := by decide +kernel
theorem dX11_crew_29 : decode cX11_crew 29 = .ok (.ireturn, 1) := by decide +kernel
theorem dX11_crew_30 : decode cX11_crew 30 = .ok (.iload_n 1, 1) := by decide +kernel
theorem dX11_crew_31 : decode cX11_crew 31 = .ok (.ifCond .ne 10, 3) := by decide +kernel
theorem dX11_crew_34 : decode cX11_crew 34 = .ok (.iload_n 2, 1) := by decide +kernel
theorem dX11_crew_35 : decode cX11_crew 35 = .ok (.invokestatic 177, 3) := by decide +kernel
theorem dX11_crew_38 : decode cX11_crew 38 = .ok (.goto 4, 3) := by decide +kernel
theorem dX11_crew_41 : decode cX11_crew 41 = .ok (.iload_n 2, 1) := by decide +kernel
theorem dX11_crew_42 : decode cX11_crew 42 = .ok (.ireturn, 1) := by decide +kernel
theorem dX11_lodgings_0 : decode cX11_lodgings 0 = .ok (.aload_n 0, 1) := by decide +kernel
theorem dX11_lodgings_1 : decode cX11_lodgings 1 = .ok (.getfield 19, 3) := by decide +kernel
theorem dX11_lodgings_4 : decode cX11_lodgings 4 = .ok (.invokestatic 182, 3) := by decide +kernel
theorem dX11_lodgings_7 : decode cX11_lodgings 7 = .ok (.ireturn, 1) := by decide +kernel
theorem dX11_couples_0 : decode cX11_couples 0 = .ok (.iload_n 1, 1) := by decide +kernel
theorem dX11_couples_1 : decode cX11_couples 1 = .ok (.iconst 1, 1) := by decide +kernel
theorem dX11_couples_2 : decode cX11_couples 2 = .ok (.if_icmp .lt 9, 3) := by decide +kernel
theorem dX11_couples_5 : decode cX11_couples 5 = .ok (.iload_n 1, 1) := by decide +kernel
theorem dX11_couples_6 : decode cX11_couples 6 = .ok (.bipush 99, 2) := by decide +kernel
theorem dX11_couples_8 : decode cX11_couples 8 = .ok (.if_icmp .le 5, 3) := by decide +kernel
theorem dX11_couples_11 : decode cX11_couples 11 = .ok (.iconst (-1), 1) := by decide +kernel
theorem dX11_couples_12 : decode cX11_couples 12 = .ok (.ireturn, 1) := by decide +kernel
theorem dX11_couples_13 : decode cX11_couples 13 = .ok (.aload_n 0, 1) := by decide +kernel
theorem dX11_couples_14 : decode cX11_couples 14 = .ok (.getfield 60, 3) := by decide +kernel
theorem dX11_couples_17 : decode cX11_couples 17 = .ok (.aload_n 0, 1) := by decide +kernel
theorem dX11_couples_18 : decode cX11_couples 18 = .ok (.getfield 19, 3) := by decide +kernel
theorem dX11_couples_21 : decode cX11_couples 21 = .ok (.iload_n 1, 1) := by decide +kernel
theorem dX11_couples_22 : decode cX11_couples 22 = .ok (.invokevirtual 185, 3) := by decide +kernel
theorem dX11_couples_25 : decode cX11_couples 25 = .ok (.ireturn, 1) := by decide +kernel
theorem dX11_fashion_0 : decode cX11_fashion 0 = .ok (.iload_n 1, 1) := by decide +kernel
theorem dX11_fashion_1 : decode cX11_fashion 1 = .ok (.ifCond .lt 29, 3) := by decide +kernel
theorem dX11_fashion_4 : decode cX11_fashion 4 = .ok (.iload_n 1, 1) := by decide +kernel
theorem dX11_fashion_5 : decode cX11_fashion 5 = .ok (.bipush 16, 2) := by decide +kernel
theorem dX11_fashion_7 : decode cX11_fashion 7 = .ok (.if_icmp .ge 23, 3) := by decide +kernel
theorem dX11_fashion_10 : decode cX11_fashion 10 = .ok (.iload_n 2, 1) := by decide +kernel
theorem dX11_fashion_11 : decode cX11_fashion 11 = .ok (.iconst 1, 1) := by decide +kernel
theorem dX11_fashion_12 : decode cX11_fashion 12 = .ok (.if_icmp .lt 18, 3) := by decide +kernel
theorem dX11_fashion_15 : decode cX11_fashion 15 = .ok (.iload_n 2, 1) := by decide +kernel
theorem dX11_fashion_16 : decode cX11_fashion 16 = .ok (.bipush 12, 2) := by decide +kernel
theorem dX11_fashion_18 : decode cX11_fashion 18 = .ok (.if_icmp .ge 12, 3) := by decide +kernel
theorem dX11_fashion_21 : decode cX11_fashion 21 = .ok (.iload_n 3, 1) := by decide +kernel
theorem dX11_fashion_22 : decode cX11_fashion 22 = .ok (.ifCond .lt 8, 3) := by decide +kernel
theorem dX11_fashion_25 : decode cX11_fashion 25 = .ok (.iload_n 3, 1) := by decide +kernel
theorem dX11_fashion_26 : decode cX11_fashion 26 = .ok (.iconst 1, 1) := by decide +kernel
theorem dX11_fashion_27 : decode cX11_fashion 27 = .ok (.if_icmp .le 5, 3) := by decide +kernel
theorem dX11_fashion_30 : decode cX11_fashion 30 = .ok (.iconst (-1), 1) := by decide +kernel
theorem dX11_fashion_31 : decode cX11_fashion 31 = .ok (.ireturn, 1) := by decide +kernel
theorem dX11_fashion_32 : decode cX11_fashion 32 = .ok (.aload_n 0, 1) := by decide +kernel
theorem dX11_fashion_33 : decode cX11_fashion 33 = .ok (.getfield 19, 3) := by decide +kernel
theorem dX11_fashion_36 : decode cX11_fashion 36 = .ok (.iload_n 1, 1) := by decide +kernel
theorem dX11_fashion_37 : decode cX11_fashion 37 = .ok (.invokevirtual 189, 3) := by decide +kernel
theorem dX11_fashion_40 : decode cX11_fashion 40 = .ok (.istore 4, 2) := by decide +kernel
theorem dX11_fashion_42 : decode cX11_fashion 42 = .ok (.iconst 0, 1) := by decide +kernel
theorem dX11_fashion_43 : decode cX11_fashion 43 = .ok (.istore 5, 2) := by decide +kernel
theorem dX11_fashion_45 : decode cX11_fashion 45 = .ok (.aload_n 0, 1) := by decide +kernel
theorem dX11_fashion_46 : decode cX11_fashion 46 = .ok (.getfield 19, 3) := by decide +kernel
theorem dX11_fashion_49 : decode cX11_fashion 49 = .ok (.iload 4, 2) := by decide +kernel
theorem dX11_fashion_51 : decode cX11_fashion 51 = .ok (.iload_n 2, 1) := by decide +kernel
theorem dX11_fashion_52 : decode cX11_fashion 52 = .ok (.invokestatic 192, 3) := by decide +kernel
theorem dX11_fashion_55 : decode cX11_fashion 55 = .ok (.istore 6, 2) := by decide +kernel
theorem dX11_fashion_57 : decode cX11_fashion 57 = .ok (.iload 6, 2) := by decide +kernel
theorem dX11_fashion_59 : decode cX11_fashion 59 = .ok (.iload 4, 2) := by decide +kernel
theorem dX11_fashion_61 : decode cX11_fashion 61 = .ok (.if_icmp .eq 32, 3) := by decide +kernel
theorem dX11_fashion_64 : decode cX11_fashion 64 = .ok (.iload 5, 2) := by decide +kernel
theorem dX11_fashion_66 : decode cX11_fashion 66 = .ok (.bipush 12, 2) := by decide +kernel
theorem dX11_fashion_68 : decode cX11_fashion 68 = .ok (.if_icmp .ge 25, 3) := by decide +kernel
theorem dX11_fashion_71 : decode cX11_fashion 71 = .ok (.iinc 5 1, 3) := by decide +kernel
theorem dX11_fashion_74 : decode cX11_fashion 74 = .ok (.iload 6, 2) := by decide +kernel
theorem dX11_fashion_76 : decode cX11_fashion 76 = .ok (.istore 4, 2) := by decide +kernel
theorem dX11_fashion_78 : decode cX11_fashion 78 = .ok (.aload_n 0, 1) := by decide +kernel
theorem dX11_fashion_79 : decode cX11_fashion 79 = .ok (.getfield 19, 3) := by decide +kernel
theorem dX11_fashion_82 : decode cX11_fashion 82 = .ok (.iload 4, 2) := by decide +kernel
theorem dX11_fashion_84 : decode cX11_fashion 84 = .ok (.iload_n 2, 1) := by decide +kernel
theorem dX11_fashion_85 : decode cX11_fashion 85 = .ok (.invokestatic 192, 3) := by decide +kernel
theorem dX11_fashion_88 : decode cX11_fashion 88 = .ok (.istore 6, 2) := by decide +kernel
theorem dX11_fashion_90 : decode cX11_fashion 90 = .ok (.goto (-33), 3) := by decide +kernel
theorem dX11_fashion_93 : decode cX11_fashion 93 = .ok (.iload_n 3, 1) := by decide +kernel
theorem dX11_fashion_94 : decode cX11_fashion 94 = .ok (.ifCond .ne 8, 3) := by decide +kernel
theorem dX11_fashion_97 : decode cX11_fashion 97 = .ok (.iload 4, 2) := by decide +kernel
theorem dX11_fashion_99 : decode cX11_fashion 99 = .ok (.goto 5, 3) := by decide +kernel
theorem dX11_fashion_102 : decode cX11_fashion 102 = .ok (.iload 5, 2) := by decide +kernel
theorem dX11_fashion_104 : decode cX11_fashion 104 = .ok (.ireturn, 1) := by decide +kernel
theorem dX11_fears_0 : decode cX11_fears 0 = .ok (.iload_n 1, 1) := by decide +kernel
theorem dX11_fears_1 : decode cX11_fears 1 = .ok (.ifCond .lt 8, 3) := by decide +kernel
theorem dX11_fears_4 : decode cX11_fears 4 = .ok (.iload_n 1, 1) := by decide +kernel
theorem dX11_fears_5 : decode cX11_fears 5 = .ok (.iconst 1, 1) := by decide +kernel
theorem dX11_fears_6 : decode cX11_fears 6 = .ok (.if_icmp .le 5, 3) := by decide +kernel
theorem dX11_fears_9 : decode cX11_fears 9 = .ok (.iconst (-1), 1) := by decide +kernel
theorem dX11_fears_10 : decode cX11_fears 10 = .ok (.ireturn, 1) := by decide +kernel
theorem dX11_fears_11 : decode cX11_fears 11 = .ok (.iload_n 1, 1) := by decide +kernel
theorem dX11_fears_12 : decode cX11_fears 12 = .ok (.ifCond .ne 13, 3) := by decide +kernel
theorem dX11_fears_15 : decode cX11_fears 15 = .ok (.aload_n 0, 1) := by decide +kernel
theorem dX11_fears_16 : decode cX11_fears 16 = .ok (.getfield 19, 3) := by decide +kernel
theorem dX11_fears_19 : decode cX11_fears 19 = .ok (.invokevirtual 195, 3) := by decide +kernel
theorem dX11_fears_22 : decode cX11_fears 22 = .ok (.goto 10, 3) := by decide +kernel
theorem dX11_fears_25 : decode cX11_fears 25 = .ok (.aload_n 0, 1) := by decide +kernel
theorem dX11_fears_26 : decode cX11_fears 26 = .ok (.getfield 19, 3) := by decide +kernel
theorem dX11_fears_29 : decode cX11_fears 29 = .ok (.invokevirtual 199, 3) := by decide +kernel
theorem dX11_fears_32 : decode cX11_fears 32 = .ok (.ireturn, 1) := by decide +kernel
theorem dX11_unlike_0 : decode cX11_unlike 0 = .ok (.aload_n 0, 1) := by decide +kernel
theorem dX11_unlike_1 : decode cX11_unlike 1 = .ok (.getfield 19, 3) := by decide +kernel
theorem dX11_unlike_4 : decode cX11_unlike 4 = .ok (.iload_n 1, 1) := by decide +kernel
theorem dX11_unlike_5 : decode cX11_unlike 5 = .ok (.invokevirtual 137, 3) := by decide +kernel
theorem dX11_unlike_8 : decode cX11_unlike 8 = .ok (.ifCond .eq 14, 3) := by decide +kernel
theorem dX11_unlike_11 : decode cX11_unlike 11 = .ok (.aload_n 0, 1) := by decide +kernel
theorem dX11_unlike_12 : decode cX11_unlike 12 = .ok (.getfield 19, 3) := by decide +kernel
theorem dX11_unlike_15 : decode cX11_unlike 15 = .ok (.iload_n 2, 1) := by decide +kernel
theorem dX11_unlike_16 : decode cX11_unlike 16 = .ok (.invokevirtual 137, 3) := by decide +kernel
theorem dX11_unlike_19 : decode cX11_unlike 19 = .ok (.ifCond .ne 5, 3) := by decide +kernel
theorem dX11_unlike_22 : decode cX11_unlike 22 = .ok (.iconst (-1), 1) := by decide +kernel
theorem dX11_unlike_23 : decode cX11_unlike 23 = .ok (.ireturn, 1) := by decide +kernel
theorem dX11_unlike_24 : decode cX11_unlike 24 = .ok (.aload_n 0, 1) := by decide +kernel
theorem dX11_unlike_25 : decode cX11_unlike 25 = .ok (.getfield 19, 3) := by decide +kernel
theorem dX11_unlike_28 : decode cX11_unlike 28 = .ok (.iload_n 1, 1) := by decide +kernel
theorem dX11_unlike_29 : decode cX11_unlike 29 = .ok (.iload_n 2, 1) := by decide +kernel
theorem dX11_unlike_30 : decode cX11_unlike 30 = .ok (.invokestatic 202, 3) := by decide +kernel
theorem dX11_unlike_33 : decode cX11_unlike 33 = .ok (.ireturn, 1) := by decide +kernel
theorem dX11_mostLike_0 : decode cX11_mostLike 0 = .ok (.aload_n 0, 1) := by decide +kernel
theorem dX11_mostLike_1 : decode cX11_mostLike 1 = .ok (.getfield 19, 3) := by decide +kernel
theorem dX11_mostLike_4 : decode cX11_mostLike 4 = .ok (.iload_n 1, 1) := by decide +kernel
theorem dX11_mostLike_5 : decode cX11_mostLike 5 = .ok (.invokevirtual 137, 3) := by decide +kernel
theorem dX11_mostLike_8 : decode cX11_mostLike 8 = .ok (.ifCond .ne 5, 3) := by decide +kernel
theorem dX11_mostLike_11 : decode cX11_mostLike 11 = .ok (.iconst (-1), 1) := by decide +kernel
theorem dX11_mostLike_12 : decode cX11_mostLike 12 = .ok (.ireturn, 1) := by decide +kernel
theorem dX11_mostLike_13 : decode cX11_mostLike 13 = .ok (.aload_n 0, 1) := by decide +kernel
theorem dX11_mostLike_14 : decode cX11_mostLike 14 = .ok (.getfield 19, 3) := by decide +kernel
theorem dX11_mostLike_17 : decode cX11_mostLike 17 = .ok (.iload_n 1, 1) := by decide +kernel
theorem dX11_mostLike_18 : decode cX11_mostLike 18 = .ok (.invokestatic 205, 3) := by decide +kernel
theorem dX11_mostLike_21 : decode cX11_mostLike 21 = .ok (.ireturn, 1) := by decide +kernel
theorem dX11_circles_0 : decode cX11_circles 0 = .ok (.iload_n 1, 1) := by decide +kernel
theorem dX11_circles_1 : decode cX11_circles 1 = .ok (.ifCond .lt 27, 3) := by decide +kernel
theorem dX11_circles_4 : decode cX11_circles 4 = .ok (.iload_n 1, 1) := by decide +kernel
theorem dX11_circles_5 : decode cX11_circles 5 = .ok (.sipush 1584, 3) := by decide +kernel
theorem dX11_circles_8 : decode cX11_circles 8 = .ok (.if_icmp .gt 20, 3) := by decide +kernel
theorem dX11_circles_11 : decode cX11_circles 11 = .ok (.iload_n 2, 1) := by decide +kernel
theorem dX11_circles_12 : decode cX11_circles 12 = .ok (.bipush 100, 2) := by decide +kernel
theorem dX11_circles_14 : decode cX11_circles 14 = .ok (.if_icmp .eq 16, 3) := by decide +kernel
theorem dX11_circles_17 : decode cX11_circles 17 = .ok (.aload_n 0, 1) := by decide +kernel
theorem dX11_circles_18 : decode cX11_circles 18 = .ok (.getfield 19, 3) := by decide +kernel
theorem dX11_circles_21 : decode cX11_circles 21 = .ok (.iload_n 2, 1) := by decide +kernel
theorem dX11_circles_22 : decode cX11_circles 22 = .ok (.invokevirtual 137, 3) := by decide +kernel
theorem dX11_circles_25 : decode cX11_circles 25 = .ok (.ifCond .ne 5, 3) := by decide +kernel
theorem dX11_circles_28 : decode cX11_circles 28 = .ok (.iconst (-1), 1) := by decide +kernel
theorem dX11_circles_29 : decode cX11_circles 29 = .ok (.ireturn, 1) := by decide +kernel
theorem dX11_circles_30 : decode cX11_circles 30 = .ok (.aload_n 0, 1) := by decide +kernel
theorem dX11_circles_31 : decode cX11_circles 31 = .ok (.getfield 60, 3) := by decide +kernel
theorem dX11_circles_34 : decode cX11_circles 34 = .ok (.aload_n 0, 1) := by decide +kernel
theorem dX11_circles_35 : decode cX11_circles 35 = .ok (.getfield 19, 3) := by decide +kernel
theorem dX11_circles_38 : decode cX11_circles 38 = .ok (.iload_n 1, 1) := by decide +kernel
theorem dX11_circles_39 : decode cX11_circles 39 = .ok (.invokevirtual 208, 3) := by decide +kernel
theorem dX11_circles_42 : decode cX11_circles 42 = .ok (.iload_n 2, 1) := by decide +kernel
theorem dX11_circles_43 : decode cX11_circles 43 = .ok (.bipush 100, 2) := by decide +kernel
theorem dX11_circles_45 : decode cX11_circles 45 = .ok (.if_icmp .ne 20, 3) := by decide +kernel
theorem dX11_circles_48 : decode cX11_circles 48 = .ok (.aload_n 0, 1) := by decide +kernel
theorem dX11_circles_49 : decode cX11_circles 49 = .ok (.getfield 60, 3) := by decide +kernel
theorem dX11_circles_52 : decode cX11_circles 52 = .ok (.aload_n 0, 1) := by decide +kernel
theorem dX11_circles_53 : decode cX11_circles 53 = .ok (.getfield 19, 3) := by decide +kernel
theorem dX11_circles_56 : decode cX11_circles 56 = .ok (.getfield 212, 3) := by decide +kernel
theorem dX11_circles_59 : decode cX11_circles 59 = .ok (.invokevirtual 215, 3) := by decide +kernel
theorem dX11_circles_62 : decode cX11_circles 62 = .ok (.goto 18, 3) := by decide +kernel
theorem dX11_circles_65 : decode cX11_circles 65 = .ok (.aload_n 0, 1) := by decide +kernel
theorem dX11_circles_66 : decode cX11_circles 66 = .ok (.getfield 60, 3) := by decide +kernel
theorem dX11_circles_69 : decode cX11_circles 69 = .ok (.iload_n 2, 1) := by decide +kernel
theorem dX11_circles_70 : decode cX11_circles 70 = .ok (.aload_n 0, 1) := by decide +kernel
theorem dX11_circles_71 : decode cX11_circles 71 = .ok (.getfield 19, 3) := by decide +kernel
theorem dX11_circles_74 : decode cX11_circles 74 = .ok (.getfield 212, 3) := by decide +kernel
theorem dX11_circles_77 : decode cX11_circles 77 = .ok (.invokevirtual 218, 3) := by decide +kernel
theorem dX11_circles_80 : decode cX11_circles 80 = .ok (.ireturn, 1) := by decide +kernel
theorem dX11_keystones_0 : decode cX11_keystones 0 = .ok (.aload_n 0, 1) := by decide +kernel
theorem dX11_keystones_1 : decode cX11_keystones 1 = .ok (.getfield 19, 3) := by decide +kernel
theorem dX11_keystones_4 : decode cX11_keystones 4 = .ok (.invokestatic 221, 3) := by decide +kernel
theorem dX11_keystones_7 : decode cX11_keystones 7 = .ok (.ireturn, 1) := by decide +kernel
theorem dX11_steps_0 : decode cX11_steps 0 = .ok (.aload_n 0, 1) := by decide +kernel
theorem dX11_steps_1 : decode cX11_steps 1 = .ok (.getfield 19, 3) := by decide +kernel
theorem dX11_steps_4 : decode cX11_steps 4 = .ok (.iload_n 1, 1) := by decide +kernel
theorem dX11_steps_5 : decode cX11_steps 5 = .ok (.invokevirtual 137, 3) := by decide +kernel
theorem dX11_steps_8 : decode cX11_steps 8 = .ok (.ifCond .eq 14, 3) := by decide +kernel
theorem dX11_steps_11 : decode cX11_steps 11 = .ok (.aload_n 0, 1) := by decide +kernel
theorem dX11_steps_12 : decode cX11_steps 12 = .ok (.getfield 19, 3) := by decide +kernel
theorem dX11_steps_15 : decode cX11_steps 15 = .ok (.iload_n 2, 1) := by decide +kernel
theorem dX11_steps_16 : decode cX11_steps 16 = .ok (.invokevirtual 137, 3) := by decide +kernel
theorem dX11_steps_19 : decode cX11_steps 19 = .ok (.ifCond .ne 5, 3) := by decide +kernel
theorem dX11_steps_22 : decode cX11_steps 22 = .ok (.iconst (-1), 1) := by decide +kernel
theorem dX11_steps_23 : decode cX11_steps 23 = .ok (.ireturn, 1) := by decide +kernel
theorem dX11_steps_24 : decode cX11_steps 24 = .ok (.aload_n 0, 1) := by decide +kernel
theorem dX11_steps_25 : decode cX11_steps 25 = .ok (.getfield 19, 3) := by decide +kernel
theorem dX11_steps_28 : decode cX11_steps 28 = .ok (.iload_n 1, 1) := by decide +kernel
theorem dX11_steps_29 : decode cX11_steps 29 = .ok (.iload_n 2, 1) := by decide +kernel
theorem dX11_steps_30 : decode cX11_steps 30 = .ok (.invokestatic 224, 3) := by decide +kernel
theorem dX11_steps_33 : decode cX11_steps 33 = .ok (.ireturn, 1) := by decide +kernel
theorem dX11_guess_0 : decode cX11_guess 0 = .ok (.iload_n 2, 1) := by decide +kernel
theorem dX11_guess_1 : decode cX11_guess 1 = .ok (.ifCond .lt 13, 3) := by decide +kernel
theorem dX11_guess_4 : decode cX11_guess 4 = .ok (.iload_n 2, 1) := by decide +kernel
theorem dX11_guess_5 : decode cX11_guess 5 = .ok (.bipush 16, 2) := by decide +kernel
theorem dX11_guess_7 : decode cX11_guess 7 = .ok (.if_icmp .ge 7, 3) := by decide +kernel
theorem dX11_guess_10 : decode cX11_guess 10 = .ok (.iconst 1, 1) := by decide +kernel
theorem dX11_guess_11 : decode cX11_guess 11 = .ok (.goto 4, 3) := by decide +kernel
theorem dX11_guess_14 : decode cX11_guess 14 = .ok (.iconst 0, 1) := by decide +kernel
theorem dX11_guess_15 : decode cX11_guess 15 = .ok (.istore_n 3, 1) := by decide +kernel
theorem dX11_guess_16 : decode cX11_guess 16 = .ok (.iload_n 2, 1) := by decide +kernel
theorem dX11_guess_17 : decode cX11_guess 17 = .ok (.bipush 20, 2) := by decide +kernel
theorem dX11_guess_19 : decode cX11_guess 19 = .ok (.if_icmp .lt 13, 3) := by decide +kernel
theorem dX11_guess_22 : decode cX11_guess 22 = .ok (.iload_n 2, 1) := by decide +kernel
theorem dX11_guess_23 : decode cX11_guess 23 = .ok (.bipush 36, 2) := by decide +kernel
theorem dX11_guess_25 : decode cX11_guess 25 = .ok (.if_icmp .ge 7, 3) := by decide +kernel
theorem dX11_guess_28 : decode cX11_guess 28 = .ok (.iconst 1, 1) := by decide +kernel
theorem dX11_guess_29 : decode cX11_guess 29 = .ok (.goto 4, 3) := by decide +kernel
theorem dX11_guess_32 : decode cX11_guess 32 = .ok (.iconst 0, 1) := by decide +kernel
theorem dX11_guess_33 : decode cX11_guess 33 = .ok (.istore 4, 2) := by decide +kernel
theorem dX11_guess_35 : decode cX11_guess 35 = .ok (.iload_n 3, 1) := by decide +kernel
theorem dX11_guess_36 : decode cX11_guess 36 = .ok (.ifCond .ne 16, 3) := by decide +kernel
theorem dX11_guess_39 : decode cX11_guess 39 = .ok (.iload 4, 2) := by decide +kernel
theorem dX11_guess_41 : decode cX11_guess 41 = .ok (.ifCond .ne 11, 3) := by decide +kernel
theorem dX11_guess_44 : decode cX11_guess 44 = .ok (.iload_n 2, 1) := by decide +kernel
theorem dX11_guess_45 : decode cX11_guess 45 = .ok (.bipush 100, 2) := by decide +kernel
theorem dX11_guess_47 : decode cX11_guess 47 = .ok (.if_icmp .eq 5, 3) := by decide +kernel
theorem dX11_guess_50 : decode cX11_guess 50 = .ok (.iconst (-1), 1) := by decide +kernel
theorem dX11_guess_51 : decode cX11_guess 51 = .ok (.ireturn, 1) := by decide +kernel
theorem dX11_guess_52 : decode cX11_guess 52 = .ok (.iload_n 1, 1) := by decide +kernel
theorem dX11_guess_53 : decode cX11_guess 53 = .ok (.iconst 1, 1) := by decide +kernel
theorem dX11_guess_54 : decode cX11_guess 54 = .ok (.if_icmp .lt 25, 3) := by decide +kernel
theorem dX11_guess_57 : decode cX11_guess 57 = .ok (.iload_n 1, 1) := by decide +kernel
theorem dX11_guess_58 : decode cX11_guess 58 = .ok (.bipush 12, 2) := by decide +kernel
theorem dX11_guess_60 : decode cX11_guess 60 = .ok (.if_icmp .gt 19, 3) := by decide +kernel
theorem dX11_guess_63 : decode cX11_guess 63 = .ok (.aload_n 0, 1) := by decide +kernel
theorem dX11_guess_64 : decode cX11_guess 64 = .ok (.getfield 12, 3) := by decide +kernel
theorem dX11_guess_67 : decode cX11_guess 67 = .ok (.iconst 2, 1) := by decide +kernel
theorem dX11_guess_68 : decode cX11_guess 68 = .ok (.iload_n 1, 1) := by decide +kernel
theorem dX11_guess_69 : decode cX11_guess 69 = .ok (.imul, 1) := by decide +kernel
theorem dX11_guess_70 : decode cX11_guess 70 = .ok (.iconst 2, 1) := by decide +kernel
theorem dX11_guess_71 : decode cX11_guess 71 = .ok (.bipush 24, 2) := by decide +kernel
theorem dX11_guess_73 : decode cX11_guess 73 = .ok (.invokevirtual 79, 3) := by decide +kernel
theorem dX11_guess_76 : decode cX11_guess 76 = .ok (.ifCond .ne 5, 3) := by decide +kernel
theorem dX11_guess_79 : decode cX11_guess 79 = .ok (.iconst (-1), 1) := by decide +kernel
theorem dX11_guess_80 : decode cX11_guess 80 = .ok (.ireturn, 1) := by decide +kernel
theorem dX11_guess_81 : decode cX11_guess 81 = .ok (.aload_n 0, 1) := by decide +kernel
theorem dX11_guess_82 : decode cX11_guess 82 = .ok (.getfield 12, 3) := by decide +kernel
theorem dX11_guess_85 : decode cX11_guess 85 = .ok (.iconst 2, 1) := by decide +kernel
theorem dX11_guess_86 : decode cX11_guess 86 = .ok (.iload_n 1, 1) := by decide +kernel
theorem dX11_guess_87 : decode cX11_guess 87 = .ok (.imul, 1) := by decide +kernel
theorem dX11_guess_88 : decode cX11_guess 88 = .ok (.invokevirtual 83, 3) := by decide +kernel
theorem dX11_guess_91 : decode cX11_guess 91 = .ok (.aload_n 0, 1) := by decide +kernel
theorem dX11_guess_92 : decode cX11_guess 92 = .ok (.getfield 12, 3) := by decide +kernel
theorem dX11_guess_95 : decode cX11_guess 95 = .ok (.aload_n 0, 1) := by decide +kernel
theorem dX11_guess_96 : decode cX11_guess 96 = .ok (.getfield 19, 3) := by decide +kernel
theorem dX11_guess_99 : decode cX11_guess 99 = .ok (.iload_n 1, 1) := by decide +kernel
theorem dX11_guess_100 : decode cX11_guess 100 = .ok (.invokestatic 227, 3) := by decide +kernel
theorem dX11_guess_103 : decode cX11_guess 103 = .ok (.ifCond .ne 6, 3) := by decide +kernel
theorem dX11_guess_106 : decode cX11_guess 106 = .ok (.bipush (-3), 2) := by decide +kernel
theorem dX11_guess_108 : decode cX11_guess 108 = .ok (.ireturn, 1) := by decide +kernel
theorem dX11_guess_109 : decode cX11_guess 109 = .ok (.iload_n 2, 1) := by decide +kernel
theorem dX11_guess_110 : decode cX11_guess 110 = .ok (.bipush 100, 2) := by decide +kernel
theorem dX11_guess_112 : decode cX11_guess 112 = .ok (.if_icmp .ne 16, 3) := by decide +kernel
theorem dX11_guess_115 : decode cX11_guess 115 = .ok (.aload_n 0, 1) := by decide +kernel
theorem dX11_guess_116 : decode cX11_guess 116 = .ok (.getfield 12, 3) := by decide +kernel
theorem dX11_guess_119 : decode cX11_guess 119 = .ok (.aload_n 0, 1) := by decide +kernel
theorem dX11_guess_120 : decode cX11_guess 120 = .ok (.getfield 19, 3) := by decide +kernel
theorem dX11_guess_123 : decode cX11_guess 123 = .ok (.iload_n 1, 1) := by decide +kernel
theorem dX11_guess_124 : decode cX11_guess 124 = .ok (.invokestatic 231, 3) := by decide +kernel
theorem dX11_guess_127 : decode cX11_guess 127 = .ok (.ireturn, 1) := by decide +kernel
theorem dX11_guess_128 : decode cX11_guess 128 = .ok (.iload_n 3, 1) := by decide +kernel
theorem dX11_guess_129 : decode cX11_guess 129 = .ok (.ifCond .eq 7, 3) := by decide +kernel
theorem dX11_guess_132 : decode cX11_guess 132 = .ok (.iload_n 2, 1) := by decide +kernel
theorem dX11_guess_133 : decode cX11_guess 133 = .ok (.goto 7, 3) := by decide +kernel
theorem dX11_guess_136 : decode cX11_guess 136 = .ok (.iload_n 2, 1) := by decide +kernel
theorem dX11_guess_137 : decode cX11_guess 137 = .ok (.bipush 20, 2) := by decide +kernel
theorem dX11_guess_139 : decode cX11_guess 139 = .ok (.isub, 1) := by decide +kernel
theorem dX11_guess_140 : decode cX11_guess 140 = .ok (.istore 5, 2) := by decide +kernel
theorem dX11_guess_142 : decode cX11_guess 142 = .ok (.aload_n 0, 1) := by decide +kernel
theorem dX11_guess_143 : decode cX11_guess 143 = .ok (.getfield 12, 3) := by decide +kernel
theorem dX11_guess_146 : decode cX11_guess 146 = .ok (.aload_n 0, 1) := by decide +kernel
theorem dX11_guess_147 : decode cX11_guess 147 = .ok (.getfield 19, 3) := by decide +kernel
theorem dX11_guess_150 : decode cX11_guess 150 = .ok (.iload_n 1, 1) := by decide +kernel
theorem dX11_guess_151 : decode cX11_guess 151 = .ok (.iload 5, 2) := by decide +kernel
theorem dX11_guess_153 : decode cX11_guess 153 = .ok (.invokestatic 235, 3) := by decide +kernel
theorem dX11_guess_156 : decode cX11_guess 156 = .ok (.istore 6, 2) := by decide +kernel
theorem dX11_guess_158 : decode cX11_guess 158 = .ok (.aload_n 0, 1) := by decide +kernel
theorem dX11_guess_159 : decode cX11_guess 159 = .ok (.getfield 12, 3) := by decide +kernel
theorem dX11_guess_162 : decode cX11_guess 162 = .ok (.aload_n 0, 1) := by decide +kernel
theorem dX11_guess_163 : decode cX11_guess 163 = .ok (.getfield 19, 3) := by decide +kernel
theorem dX11_guess_166 : decode cX11_guess 166 = .ok (.iload_n 1, 1) := by decide +kernel
theorem dX11_guess_167 : decode cX11_guess 167 = .ok (.iload 5, 2) := by decide +kernel
theorem dX11_guess_169 : decode cX11_guess 169 = .ok (.invokestatic 239, 3) := by decide +kernel
theorem dX11_guess_172 : decode cX11_guess 172 = .ok (.istore 7, 2) := by decide +kernel
theorem dX11_guess_174 : decode cX11_guess 174 = .ok (.iload 6, 2) := by decide +kernel
theorem dX11_guess_176 : decode cX11_guess 176 = .ok (.iload 7, 2) := by decide +kernel
theorem dX11_guess_178 : decode cX11_guess 178 = .ok (.if_icmp .le 6, 3) := by decide +kernel
theorem dX11_guess_181 : decode cX11_guess 181 = .ok (.bipush (-2), 2) := by decide +kernel
theorem dX11_guess_183 : decode cX11_guess 183 = .ok (.ireturn, 1) := by decide +kernel
theorem dX11_guess_184 : decode cX11_guess 184 = .ok (.iload_n 3, 1) := by decide +kernel
theorem dX11_guess_185 : decode cX11_guess 185 = .ok (.ifCond .eq 8, 3) := by decide +kernel
theorem dX11_guess_188 : decode cX11_guess 188 = .ok (.iload 6, 2) := by decide +kernel
theorem dX11_guess_190 : decode cX11_guess 190 = .ok (.goto 5, 3) := by decide +kernel
theorem dX11_guess_193 : decode cX11_guess 193 = .ok (.iload 7, 2) := by decide +kernel
theorem dX11_guess_195 : decode cX11_guess 195 = .ok (.ireturn, 1) := by decide +kernel
theorem dX11_sentNext_0 : decode cX11_sentNext 0 = .ok (.iload_n 1, 1) := by decide +kernel
theorem dX11_sentNext_1 : decode cX11_sentNext 1 = .ok (.iconst 1, 1) := by decide +kernel
theorem dX11_sentNext_2 : decode cX11_sentNext 2 = .ok (.if_icmp .lt 18, 3) := by decide +kernel
theorem dX11_sentNext_5 : decode cX11_sentNext 5 = .ok (.iload_n 1, 1) := by decide +kernel
theorem dX11_sentNext_6 : decode cX11_sentNext 6 = .ok (.ldc 242, 2) := by decide +kernel
theorem dX11_sentNext_8 : decode cX11_sentNext 8 = .ok (.if_icmp .gt 12, 3) := by decide +kernel
theorem dX11_sentNext_11 : decode cX11_sentNext 11 = .ok (.iload_n 2, 1) := by decide +kernel
theorem dX11_sentNext_12 : decode cX11_sentNext 12 = .ok (.ifCond .lt 8, 3) := by decide +kernel
theorem dX11_sentNext_15 : decode cX11_sentNext 15 = .ok (.iload_n 2, 1) := by decide +kernel
theorem dX11_sentNext_16 : decode cX11_sentNext 16 = .ok (.iconst 1, 1) := by decide +kernel
theorem dX11_sentNext_17 : decode cX11_sentNext 17 = .ok (.if_icmp .le 5, 3) := by decide +kernel
theorem dX11_sentNext_20 : decode cX11_sentNext 20 = .ok (.iconst (-1), 1) := by decide +kernel
theorem dX11_sentNext_21 : decode cX11_sentNext 21 = .ok (.ireturn, 1) := by decide +kernel
theorem dX11_sentNext_22 : decode cX11_sentNext 22 = .ok (.aload_n 0, 1) := by decide +kernel
theorem dX11_sentNext_23 : decode cX11_sentNext 23 = .ok (.getfield 19, 3) := by decide +kernel
theorem dX11_sentNext_26 : decode cX11_sentNext 26 = .ok (.iload_n 1, 1) := by decide +kernel
theorem dX11_sentNext_27 : decode cX11_sentNext 27 = .ok (.invokestatic 243, 3) := by decide +kernel
theorem dX11_sentNext_30 : decode cX11_sentNext 30 = .ok (.istore_n 3, 1) := by decide +kernel
theorem dX11_sentNext_31 : decode cX11_sentNext 31 = .ok (.iload_n 3, 1) := by decide +kernel
theorem dX11_sentNext_32 : decode cX11_sentNext 32 = .ok (.ifCond .ge 6, 3) := by decide +kernel
theorem dX11_sentNext_35 : decode cX11_sentNext 35 = .ok (.bipush (-2), 2) := by decide +kernel
theorem dX11_sentNext_37 : decode cX11_sentNext 37 = .ok (.ireturn, 1) := by decide +kernel
theorem dX11_sentNext_38 : decode cX11_sentNext 38 = .ok (.iload_n 2, 1) := by decide +kernel
theorem dX11_sentNext_39 : decode cX11_sentNext 39 = .ok (.ifCond .ne 7, 3) := by decide +kernel
theorem dX11_sentNext_42 : decode cX11_sentNext 42 = .ok (.iload_n 3, 1) := by decide +kernel
theorem dX11_sentNext_43 : decode cX11_sentNext 43 = .ok (.goto 12, 3) := by decide +kernel
theorem dX11_sentNext_46 : decode cX11_sentNext 46 = .ok (.aload_n 0, 1) := by decide +kernel
theorem dX11_sentNext_47 : decode cX11_sentNext 47 = .ok (.getfield 19, 3) := by decide +kernel
theorem dX11_sentNext_50 : decode cX11_sentNext 50 = .ok (.iload_n 1, 1) := by decide +kernel
theorem dX11_sentNext_51 : decode cX11_sentNext 51 = .ok (.iload_n 3, 1) := by decide +kernel
theorem dX11_sentNext_52 : decode cX11_sentNext 52 = .ok (.invokestatic 246, 3) := by decide +kernel
theorem dX11_sentNext_55 : decode cX11_sentNext 55 = .ok (.ireturn, 1) := by decide +kernel
theorem dX11_guards_0 : decode cX11_guards 0 = .ok (.aload_n 0, 1) := by decide +kernel
theorem dX11_guards_1 : decode cX11_guards 1 = .ok (.getfield 12, 3) := by decide +kernel
theorem dX11_guards_4 : decode cX11_guards 4 = .ok (.iload_n 1, 1) := by decide +kernel
theorem dX11_guards_5 : decode cX11_guards 5 = .ok (.iconst 3, 1) := by decide +kernel
theorem dX11_guards_6 : decode cX11_guards 6 = .ok (.bipush 6, 2) := by decide +kernel
theorem dX11_guards_8 : decode cX11_guards 8 = .ok (.invokevirtual 79, 3) := by decide +kernel
theorem dX11_guards_11 : decode cX11_guards 11 = .ok (.ifCond .ne 5, 3) := by decide +kernel
theorem dX11_guards_14 : decode cX11_guards 14 = .ok (.iconst (-1), 1) := by decide +kernel
theorem dX11_guards_15 : decode cX11_guards 15 = .ok (.ireturn, 1) := by decide +kernel
theorem dX11_guards_16 : decode cX11_guards 16 = .ok (.aload_n 0, 1) := by decide +kernel
theorem dX11_guards_17 : decode cX11_guards 17 = .ok (.getfield 12, 3) := by decide +kernel
theorem dX11_guards_20 : decode cX11_guards 20 = .ok (.iload_n 1, 1) := by decide +kernel
theorem dX11_guards_21 : decode cX11_guards 21 = .ok (.invokevirtual 83, 3) := by decide +kernel
theorem dX11_guards_24 : decode cX11_guards 24 = .ok (.aload_n 0, 1) := by decide +kernel
theorem dX11_guards_25 : decode cX11_guards 25 = .ok (.getfield 67, 3) := by decide +kernel
theorem dX11_guards_28 : decode cX11_guards 28 = .ok (.aload_n 0, 1) := by decide +kernel
theorem dX11_guards_29 : decode cX11_guards 29 = .ok (.getfield 12, 3) := by decide +kernel
theorem dX11_guards_32 : decode cX11_guards 32 = .ok (.aload_n 0, 1) := by decide +kernel
theorem dX11_guards_33 : decode cX11_guards 33 = .ok (.getfield 19, 3) := by decide +kernel
theorem dX11_guards_36 : decode cX11_guards 36 = .ok (.iload_n 1, 1) := by decide +kernel
theorem dX11_guards_37 : decode cX11_guards 37 = .ok (.invokevirtual 249, 3) := by decide +kernel
theorem dX11_guards_40 : decode cX11_guards 40 = .ok (.ireturn, 1) := by decide +kernel
theorem dX11_word_0 : decode cX11_word 0 = .ok (.iload_n 1, 1) := by decide +kernel
theorem dX11_word_1 : decode cX11_word 1 = .ok (.iconst 1, 1) := by decide +kernel
theorem dX11_word_2 : decode cX11_word 2 = .ok (.if_icmp .lt 19, 3) := by decide +kernel
theorem dX11_word_5 : decode cX11_word 5 = .ok (.iload_n 1, 1) := by decide +kernel
theorem dX11_word_6 : decode cX11_word 6 = .ok (.bipush 8, 2) := by decide +kernel
theorem dX11_word_8 : decode cX11_word 8 = .ok (.if_icmp .gt 13, 3) := by decide +kernel
theorem dX11_word_11 : decode cX11_word 11 = .ok (.iload_n 2, 1) := by decide +kernel
theorem dX11_word_12 : decode cX11_word 12 = .ok (.ifCond .lt 9, 3) := by decide +kernel
theorem dX11_word_15 : decode cX11_word 15 = .ok (.iload_n 2, 1) := by decide +kernel
theorem dX11_word_16 : decode cX11_word 16 = .ok (.ldc 242, 2) := by decide +kernel
theorem dX11_word_18 : decode cX11_word 18 = .ok (.if_icmp .le 7, 3) := by decide +kernel
theorem dX11_word_21 : decode cX11_word 21 = .ok (.ldc2_w 252, 3) := by decide +kernel
theorem dX11_word_24 : decode cX11_word 24 = .ok (.lreturn, 1) := by decide +kernel
theorem dX11_word_25 : decode cX11_word 25 = .ok (.iload_n 3, 1) := by decide +kernel
theorem dX11_word_26 : decode cX11_word 26 = .ok (.ifCond .lt 10, 3) := by decide +kernel
theorem dX11_word_29 : decode cX11_word 29 = .ok (.iload_n 3, 1) := by decide +kernel
theorem dX11_word_30 : decode cX11_word 30 = .ok (.sipush 128, 3) := by decide +kernel
theorem dX11_word_33 : decode cX11_word 33 = .ok (.if_icmp .le 7, 3) := by decide +kernel
theorem dX11_word_36 : decode cX11_word 36 = .ok (.ldc2_w 252, 3) := by decide +kernel
theorem dX11_word_39 : decode cX11_word 39 = .ok (.lreturn, 1) := by decide +kernel
theorem dX11_word_40 : decode cX11_word 40 = .ok (.aload_n 0, 1) := by decide +kernel
theorem dX11_word_41 : decode cX11_word 41 = .ok (.getfield 67, 3) := by decide +kernel
theorem dX11_word_44 : decode cX11_word 44 = .ok (.iload_n 1, 1) := by decide +kernel
theorem dX11_word_45 : decode cX11_word 45 = .ok (.iload_n 2, 1) := by decide +kernel
theorem dX11_word_46 : decode cX11_word 46 = .ok (.iload_n 3, 1) := by decide +kernel
theorem dX11_word_47 : decode cX11_word 47 = .ok (.invokevirtual 254, 3) := by decide +kernel
theorem dX11_word_50 : decode cX11_word 50 = .ok (.lreturn, 1) := by decide +kernel
theorem dX11_rooms_0 : decode cX11_rooms 0 = .ok (.iload_n 2, 1) := by decide +kernel
theorem dX11_rooms_1 : decode cX11_rooms 1 = .ok (.ifCond .lt 23, 3) := by decide +kernel
theorem dX11_rooms_4 : decode cX11_rooms 4 = .ok (.iload_n 2, 1) := by decide +kernel
theorem dX11_rooms_5 : decode cX11_rooms 5 = .ok (.bipush 99, 2) := by decide +kernel
theorem dX11_rooms_7 : decode cX11_rooms 7 = .ok (.if_icmp .gt 17, 3) := by decide +kernel
theorem dX11_rooms_10 : decode cX11_rooms 10 = .ok (.aload_n 0, 1) := by decide +kernel
theorem dX11_rooms_11 : decode cX11_rooms 11 = .ok (.getfield 12, 3) := by decide +kernel
theorem dX11_rooms_14 : decode cX11_rooms 14 = .ok (.iload_n 1, 1) := by decide +kernel
theorem dX11_rooms_15 : decode cX11_rooms 15 = .ok (.iconst 1, 1) := by decide +kernel
theorem dX11_rooms_16 : decode cX11_rooms 16 = .ok (.bipush 12, 2) := by decide +kernel
theorem dX11_rooms_18 : decode cX11_rooms 18 = .ok (.invokevirtual 79, 3) := by decide +kernel
theorem dX11_rooms_21 : decode cX11_rooms 21 = .ok (.ifCond .ne 5, 3) := by decide +kernel
theorem dX11_rooms_24 : decode cX11_rooms 24 = .ok (.iconst (-1), 1) := by decide +kernel
theorem dX11_rooms_25 : decode cX11_rooms 25 = .ok (.ireturn, 1) := by decide +kernel
theorem dX11_rooms_26 : decode cX11_rooms 26 = .ok (.aload_n 0, 1) := by decide +kernel
theorem dX11_rooms_27 : decode cX11_rooms 27 = .ok (.getfield 12, 3) := by decide +kernel
theorem dX11_rooms_30 : decode cX11_rooms 30 = .ok (.iload_n 1, 1) := by decide +kernel
theorem dX11_rooms_31 : decode cX11_rooms 31 = .ok (.invokevirtual 83, 3) := by decide +kernel
theorem dX11_rooms_34 : decode cX11_rooms 34 = .ok (.iconst 0, 1) := by decide +kernel
theorem dX11_rooms_35 : decode cX11_rooms 35 = .ok (.istore_n 3, 1) := by decide +kernel
theorem dX11_rooms_36 : decode cX11_rooms 36 = .ok (.iload_n 3, 1) := by decide +kernel
theorem dX11_rooms_37 : decode cX11_rooms 37 = .ok (.iload_n 1, 1) := by decide +kernel
theorem dX11_rooms_38 : decode cX11_rooms 38 = .ok (.if_icmp .ge 25, 3) := by decide +kernel
theorem dX11_rooms_41 : decode cX11_rooms 41 = .ok (.aload_n 0, 1) := by decide +kernel
theorem dX11_rooms_42 : decode cX11_rooms 42 = .ok (.getfield 12, 3) := by decide +kernel
theorem dX11_rooms_45 : decode cX11_rooms 45 = .ok (.iload_n 3, 1) := by decide +kernel
theorem dX11_rooms_46 : decode cX11_rooms 46 = .ok (.invokevirtual 258, 3) := by decide +kernel
theorem dX11_rooms_49 : decode cX11_rooms 49 = .ok (.bipush 16, 2) := by decide +kernel
theorem dX11_rooms_51 : decode cX11_rooms 51 = .ok (.if_icmp .lt 6, 3) := by decide +kernel
theorem dX11_rooms_54 : decode cX11_rooms 54 = .ok (.bipush (-3), 2) := by decide +kernel
theorem dX11_rooms_56 : decode cX11_rooms 56 = .ok (.ireturn, 1) := by decide +kernel
theorem dX11_rooms_57 : decode cX11_rooms 57 = .ok (.iinc 3 1, 3) := by decide +kernel
theorem dX11_rooms_60 : decode cX11_rooms 60 = .ok (.goto (-24), 3) := by decide +kernel
theorem dX11_rooms_63 : decode cX11_rooms 63 = .ok (.aload_n 0, 1) := by decide +kernel
theorem dX11_rooms_64 : decode cX11_rooms 64 = .ok (.getfield 12, 3) := by decide +kernel
theorem dX11_rooms_67 : decode cX11_rooms 67 = .ok (.iload_n 1, 1) := by decide +kernel
theorem dX11_rooms_68 : decode cX11_rooms 68 = .ok (.iload_n 2, 1) := by decide +kernel
theorem dX11_rooms_69 : decode cX11_rooms 69 = .ok (.invokestatic 261, 3) := by decide +kernel
theorem dX11_rooms_72 : decode cX11_rooms 72 = .ok (.ireturn, 1) := by decide +kernel
theorem dX11_seed_0 : decode cX11_seed 0 = .ok (.iload_n 1, 1) := by decide +kernel
theorem dX11_seed_1 : decode cX11_seed 1 = .ok (.ifCond .lt 9, 3) := by decide +kernel
theorem dX11_seed_4 : decode cX11_seed 4 = .ok (.iload_n 1, 1) := by decide +kernel
theorem dX11_seed_5 : decode cX11_seed 5 = .ok (.ldc 242, 2) := by decide +kernel
theorem dX11_seed_7 : decode cX11_seed 7 = .ok (.if_icmp .le 5, 3) := by decide +kernel
theorem dX11_seed_10 : decode cX11_seed 10 = .ok (.iconst 0, 1) := by decide +kernel
theorem dX11_seed_11 : decode cX11_seed 11 = .ok (.ireturn, 1) := by decide +kernel
theorem dX11_seed_12 : decode cX11_seed 12 = .ok (.aload_n 0, 1) := by decide +kernel
theorem dX11_seed_13 : decode cX11_seed 13 = .ok (.getfield 19, 3) := by decide +kernel
theorem dX11_seed_16 : decode cX11_seed 16 = .ok (.iload_n 1, 1) := by decide +kernel
theorem dX11_seed_17 : decode cX11_seed 17 = .ok (.putfield 265, 3) := by decide +kernel
theorem dX11_seed_20 : decode cX11_seed 20 = .ok (.iconst 1, 1) := by decide +kernel
theorem dX11_seed_21 : decode cX11_seed 21 = .ok (.ireturn, 1) := by decide +kernel
theorem dX11_keep_0 : decode cX11_keep 0 = .ok (.aload_n 0, 1) := by decide +kernel
theorem dX11_keep_1 : decode cX11_keep 1 = .ok (.getfield 26, 3) := by decide +kernel
theorem dX11_keep_4 : decode cX11_keep 4 = .ok (.aload_n 0, 1) := by decide +kernel
theorem dX11_keep_5 : decode cX11_keep 5 = .ok (.getfield 19, 3) := by decide +kernel
theorem dX11_keep_8 : decode cX11_keep 8 = .ok (.invokevirtual 98, 3) := by decide +kernel
theorem dX11_keep_11 : decode cX11_keep 11 = .ok (.aload_n 0, 1) := by decide +kernel
theorem dX11_keep_12 : decode cX11_keep 12 = .ok (.iconst 1, 1) := by decide +kernel
theorem dX11_keep_13 : decode cX11_keep 13 = .ok (.putfield 29, 3) := by decide +kernel
theorem dX11_keep_16 : decode cX11_keep 16 = .ok (.aload_n 0, 1) := by decide +kernel
theorem dX11_keep_17 : decode cX11_keep 17 = .ok (.getfield 19, 3) := by decide +kernel
theorem dX11_keep_20 : decode cX11_keep 20 = .ok (.getfield 268, 3) := by decide +kernel
theorem dX11_keep_23 : decode cX11_keep 23 = .ok (.ireturn, 1) := by decide +kernel
theorem dX11_undo_0 : decode cX11_undo 0 = .ok (.aload_n 0, 1) := by decide +kernel
theorem dX11_undo_1 : decode cX11_undo 1 = .ok (.getfield 29, 3) := by decide +kernel
theorem dX11_undo_4 : decode cX11_undo 4 = .ok (.ifCond .ne 5, 3) := by decide +kernel
theorem dX11_undo_7 : decode cX11_undo 7 = .ok (.iconst 0, 1) := by decide +kernel
theorem dX11_undo_8 : decode cX11_undo 8 = .ok (.ireturn, 1) := by decide +kernel
theorem dX11_undo_9 : decode cX11_undo 9 = .ok (.aload_n 0, 1) := by decide +kernel
theorem dX11_undo_10 : decode cX11_undo 10 = .ok (.getfield 19, 3) := by decide +kernel
theorem dX11_undo_13 : decode cX11_undo 13 = .ok (.aload_n 0, 1) := by decide +kernel
theorem dX11_undo_14 : decode cX11_undo 14 = .ok (.getfield 26, 3) := by decide +kernel
theorem dX11_undo_17 : decode cX11_undo 17 = .ok (.invokevirtual 271, 3) := by decide +kernel
theorem dX11_undo_20 : decode cX11_undo 20 = .ok (.iconst 1, 1) := by decide +kernel
theorem dX11_undo_21 : decode cX11_undo 21 = .ok (.ireturn, 1) := by decide +kernel
theorem dX11_check_0 : decode cX11_check 0 = .ok (.aload_n 0, 1) := by decide +kernel
theorem dX11_check_1 : decode cX11_check 1 = .ok (.getfield 12, 3) := by decide +kernel
theorem dX11_check_4 : decode cX11_check 4 = .ok (.iload_n 1, 1) := by decide +kernel
theorem dX11_check_5 : decode cX11_check 5 = .ok (.iconst 0, 1) := by decide +kernel
theorem dX11_check_6 : decode cX11_check 6 = .ok (.bipush 12, 2) := by decide +kernel
theorem dX11_check_8 : decode cX11_check 8 = .ok (.invokevirtual 79, 3) := by decide +kernel
theorem dX11_check_11 : decode cX11_check 11 = .ok (.ifCond .ne 6, 3) := by decide +kernel
theorem dX11_check_14 : decode cX11_check 14 = .ok (.bipush (-2), 2) := by decide +kernel
theorem dX11_check_16 : decode cX11_check 16 = .ok (.ireturn, 1) := by decide +kernel
theorem dX11_check_17 : decode cX11_check 17 = .ok (.aload_n 0, 1) := by decide +kernel
theorem dX11_check_18 : decode cX11_check 18 = .ok (.getfield 12, 3) := by decide +kernel
theorem dX11_check_21 : decode cX11_check 21 = .ok (.iload_n 1, 1) := by decide +kernel
theorem dX11_check_22 : decode cX11_check 22 = .ok (.invokevirtual 83, 3) := by decide +kernel
theorem dX11_check_25 : decode cX11_check 25 = .ok (.iconst 0, 1) := by decide +kernel
theorem dX11_check_26 : decode cX11_check 26 = .ok (.istore_n 2, 1) := by decide +kernel
theorem dX11_check_27 : decode cX11_check 27 = .ok (.iload_n 2, 1) := by decide +kernel
theorem dX11_check_28 : decode cX11_check 28 = .ok (.iload_n 1, 1) := by decide +kernel
theorem dX11_check_29 : decode cX11_check 29 = .ok (.if_icmp .ge 49, 3) := by decide +kernel
theorem dX11_check_32 : decode cX11_check 32 = .ok (.aload_n 0, 1) := by decide +kernel
theorem dX11_check_33 : decode cX11_check 33 = .ok (.getfield 19, 3) := by decide +kernel
theorem dX11_check_36 : decode cX11_check 36 = .ok (.iload_n 2, 1) := by decide +kernel
theorem dX11_check_37 : decode cX11_check 37 = .ok (.invokevirtual 137, 3) := by decide +kernel
theorem dX11_check_40 : decode cX11_check 40 = .ok (.ifCond .eq 14, 3) := by decide +kernel
theorem dX11_check_43 : decode cX11_check 43 = .ok (.aload_n 0, 1) := by decide +kernel
theorem dX11_check_44 : decode cX11_check 44 = .ok (.getfield 19, 3) := by decide +kernel
theorem dX11_check_47 : decode cX11_check 47 = .ok (.iload_n 2, 1) := by decide +kernel
theorem dX11_check_48 : decode cX11_check 48 = .ok (.invokevirtual 131, 3) := by decide +kernel
theorem dX11_check_51 : decode cX11_check 51 = .ok (.goto 6, 3) := by decide +kernel
theorem dX11_check_54 : decode cX11_check 54 = .ok (.sipush 255, 3) := by decide +kernel
theorem dX11_check_57 : decode cX11_check 57 = .ok (.istore_n 3, 1) := by decide +kernel
theorem dX11_check_58 : decode cX11_check 58 = .ok (.aload_n 0, 1) := by decide +kernel
theorem dX11_check_59 : decode cX11_check 59 = .ok (.getfield 12, 3) := by decide +kernel
theorem dX11_check_62 : decode cX11_check 62 = .ok (.iload_n 2, 1) := by decide +kernel
theorem dX11_check_63 : decode cX11_check 63 = .ok (.invokevirtual 258, 3) := by decide +kernel
theorem dX11_check_66 : decode cX11_check 66 = .ok (.iload_n 3, 1) := by decide +kernel
theorem dX11_check_67 : decode cX11_check 67 = .ok (.if_icmp .eq 5, 3) := by decide +kernel
theorem dX11_check_70 : decode cX11_check 70 = .ok (.iload_n 2, 1) := by decide +kernel
theorem dX11_check_71 : decode cX11_check 71 = .ok (.ireturn, 1) := by decide +kernel
theorem dX11_check_72 : decode cX11_check 72 = .ok (.iinc 2 1, 3) := by decide +kernel
theorem dX11_check_75 : decode cX11_check 75 = .ok (.goto (-48), 3) := by decide +kernel
theorem dX11_check_78 : decode cX11_check 78 = .ok (.iconst (-1), 1) := by decide +kernel
theorem dX11_check_79 : decode cX11_check 79 = .ok (.ireturn, 1) := by decide +kernel
theorem dX11_count_0 : decode cX11_count 0 = .ok (.iload_n 1, 1) := by decide +kernel
theorem dX11_count_1 : decode cX11_count 1 = .ok (.tableswitch 111 0 7 #[47, 55, 63, 71, 79, 87, 95, 103], 47) := by decide +kernel
theorem dX11_count_48 : decode cX11_count 48 = .ok (.aload_n 0, 1) := by decide +kernel
theorem dX11_count_49 : decode cX11_count 49 = .ok (.getfield 19, 3) := by decide +kernel
theorem dX11_count_52 : decode cX11_count 52 = .ok (.getfield 268, 3) := by decide +kernel
theorem dX11_count_55 : decode cX11_count 55 = .ok (.ireturn, 1) := by decide +kernel
theorem dX11_count_56 : decode cX11_count 56 = .ok (.aload_n 0, 1) := by decide +kernel
theorem dX11_count_57 : decode cX11_count 57 = .ok (.getfield 19, 3) := by decide +kernel
theorem dX11_count_60 : decode cX11_count 60 = .ok (.getfield 212, 3) := by decide +kernel
theorem dX11_count_63 : decode cX11_count 63 = .ok (.ireturn, 1) := by decide +kernel
theorem dX11_count_64 : decode cX11_count 64 = .ok (.aload_n 0, 1) := by decide +kernel
theorem dX11_count_65 : decode cX11_count 65 = .ok (.getfield 19, 3) := by decide +kernel
theorem dX11_count_68 : decode cX11_count 68 = .ok (.getfield 274, 3) := by decide +kernel
theorem dX11_count_71 : decode cX11_count 71 = .ok (.ireturn, 1) := by decide +kernel
theorem dX11_count_72 : decode cX11_count 72 = .ok (.aload_n 0, 1) := by decide +kernel
theorem dX11_count_73 : decode cX11_count 73 = .ok (.getfield 19, 3) := by decide +kernel
theorem dX11_count_76 : decode cX11_count 76 = .ok (.invokevirtual 277, 3) := by decide +kernel
theorem dX11_count_79 : decode cX11_count 79 = .ok (.ireturn, 1) := by decide +kernel
theorem dX11_count_80 : decode cX11_count 80 = .ok (.aload_n 0, 1) := by decide +kernel
theorem dX11_count_81 : decode cX11_count 81 = .ok (.getfield 19, 3) := by decide +kernel
theorem dX11_count_84 : decode cX11_count 84 = .ok (.invokevirtual 280, 3) := by decide +kernel
theorem dX11_count_87 : decode cX11_count 87 = .ok (.ireturn, 1) := by decide +kernel
theorem dX11_count_88 : decode cX11_count 88 = .ok (.aload_n 0, 1) := by decide +kernel
theorem dX11_count_89 : decode cX11_count 89 = .ok (.getfield 36, 3) := by decide +kernel
theorem dX11_count_92 : decode cX11_count 92 = .ok (.getfield 283, 3) := by decide +kernel
theorem dX11_count_95 : decode cX11_count 95 = .ok (.ireturn, 1) := by decide +kernel
theorem dX11_count_96 : decode cX11_count 96 = .ok (.aload_n 0, 1) := by decide +kernel
theorem dX11_count_97 : decode cX11_count 97 = .ok (.getfield 12, 3) := by decide +kernel
theorem dX11_count_100 : decode cX11_count 100 = .ok (.getfield 71, 3) := by decide +kernel
theorem dX11_count_103 : decode cX11_count 103 = .ok (.ireturn, 1) := by decide +kernel
theorem dX11_count_104 : decode cX11_count 104 = .ok (.aload_n 0, 1) := by decide +kernel
theorem dX11_count_105 : decode cX11_count 105 = .ok (.getfield 19, 3) := by decide +kernel
theorem dX11_count_108 : decode cX11_count 108 = .ok (.getfield 265, 3) := by decide +kernel
theorem dX11_count_111 : decode cX11_count 111 = .ok (.ireturn, 1) := by decide +kernel
theorem dX11_count_112 : decode cX11_count 112 = .ok (.iconst (-1), 1) := by decide +kernel
theorem dX11_count_113 : decode cX11_count 113 = .ok (.ireturn, 1) := by decide +kernel
theorem dX11_bounded_0 : decode cX11_bounded 0 = .ok (.iload_n 1, 1) := by decide +kernel
theorem dX11_bounded_1 : decode cX11_bounded 1 = .ok (.iload_n 2, 1) := by decide +kernel
theorem dX11_bounded_2 : decode cX11_bounded 2 = .ok (.iload_n 0, 1) := by decide +kernel
theorem dX11_bounded_3 : decode cX11_bounded 3 = .ok (.invokestatic 286, 3) := by decide +kernel
theorem dX11_bounded_6 : decode cX11_bounded 6 = .ok (.invokestatic 291, 3) := by decide +kernel
theorem dX11_bounded_9 : decode cX11_bounded 9 = .ok (.ireturn, 1) := by decide +kernel
theorem dX11_has_0 : decode cX11_has 0 = .ok (.iload_n 1, 1) := by decide +kernel
theorem dX11_has_1 : decode cX11_has 1 = .ok (.ifCond .lt 21, 3) := by decide +kernel
theorem dX11_has_4 : decode cX11_has 4 = .ok (.iload_n 1, 1) := by decide +kernel
theorem dX11_has_5 : decode cX11_has 5 = .ok (.bipush 32, 2) := by decide +kernel
theorem dX11_has_7 : decode cX11_has 7 = .ok (.if_icmp .ge 15, 3) := by decide +kernel
theorem dX11_has_10 : decode cX11_has 10 = .ok (.iload_n 0, 1) := by decide +kernel
theorem dX11_has_11 : decode cX11_has 11 = .ok (.iload_n 1, 1) := by decide +kernel
theorem dX11_has_12 : decode cX11_has 12 = .ok (.ishr, 1) := by decide +kernel
theorem dX11_has_13 : decode cX11_has 13 = .ok (.iconst 1, 1) := by decide +kernel
theorem dX11_has_14 : decode cX11_has 14 = .ok (.iand, 1) := by decide +kernel
theorem dX11_has_15 : decode cX11_has 15 = .ok (.ifCond .eq 7, 3) := by decide +kernel
theorem dX11_has_18 : decode cX11_has 18 = .ok (.iconst 1, 1) := by decide +kernel
theorem dX11_has_19 : decode cX11_has 19 = .ok (.goto 4, 3) := by decide +kernel
theorem dX11_has_22 : decode cX11_has 22 = .ok (.iconst 0, 1) := by decide +kernel
theorem dX11_has_23 : decode cX11_has 23 = .ok (.ireturn, 1) := by decide +kernel
theorem dX12_init_0 : decode cX12_init 0 = .ok (.aload_n 0, 1) := by decide +kernel
theorem dX12_init_1 : decode cX12_init 1 = .ok (.invokespecial 1, 3) := by decide +kernel
theorem dX12_init_4 : decode cX12_init 4 = .ok (.aload_n 0, 1) := by decide +kernel
theorem dX12_init_5 : decode cX12_init 5 = .ok (.sipush 210, 3) := by decide +kernel
theorem dX12_init_8 : decode cX12_init 8 = .ok (.newarray .int, 2) := by decide +kernel
theorem dX12_init_10 : decode cX12_init 10 = .ok (.putfield 7, 3) := by decide +kernel
theorem dX12_init_13 : decode cX12_init 13 = .ok (.aload_n 0, 1) := by decide +kernel
theorem dX12_init_14 : decode cX12_init 14 = .ok (.sipush 210, 3) := by decide +kernel
theorem dX12_init_17 : decode cX12_init 17 = .ok (.newarray .int, 2) := by decide +kernel
theorem dX12_init_19 : decode cX12_init 19 = .ok (.putfield 13, 3) := by decide +kernel
theorem dX12_init_22 : decode cX12_init 22 = .ok (.aload_n 0, 1) := by decide +kernel
theorem dX12_init_23 : decode cX12_init 23 = .ok (.sipush 210, 3) := by decide +kernel
theorem dX12_init_26 : decode cX12_init 26 = .ok (.newarray .int, 2) := by decide +kernel
theorem dX12_init_28 : decode cX12_init 28 = .ok (.putfield 16, 3) := by decide +kernel
theorem dX12_init_31 : decode cX12_init 31 = .ok (.aload_n 0, 1) := by decide +kernel
theorem dX12_init_32 : decode cX12_init 32 = .ok (.bipush 12, 2) := by decide +kernel
theorem dX12_init_34 : decode cX12_init 34 = .ok (.newarray .int, 2) := by decide +kernel
theorem dX12_init_36 : decode cX12_init 36 = .ok (.putfield 19, 3) := by decide +kernel
theorem dX12_init_39 : decode cX12_init 39 = .ok (.aload_n 0, 1) := by decide +kernel
theorem dX12_init_40 : decode cX12_init 40 = .ok (.bipush 12, 2) := by decide +kernel
theorem dX12_init_42 : decode cX12_init 42 = .ok (.newarray .int, 2) := by decide +kernel
theorem dX12_init_44 : decode cX12_init 44 = .ok (.putfield 22, 3) := by decide +kernel
theorem dX12_init_47 : decode cX12_init 47 = .ok (.aload_n 0, 1) := by decide +kernel
theorem dX12_init_48 : decode cX12_init 48 = .ok (.bipush 16, 2) := by decide +kernel
theorem dX12_init_50 : decode cX12_init 50 = .ok (.newarray .int, 2) := by decide +kernel
theorem dX12_init_52 : decode cX12_init 52 = .ok (.putfield 25, 3) := by decide +kernel
theorem dX12_init_55 : decode cX12_init 55 = .ok (.aload_n 0, 1) := by decide +kernel
theorem dX12_init_56 : decode cX12_init 56 = .ok (.bipush 16, 2) := by decide +kernel
theorem dX12_init_58 : decode cX12_init 58 = .ok (.newarray .int, 2) := by decide +kernel
theorem dX12_init_60 : decode cX12_init 60 = .ok (.putfield 28, 3) := by decide +kernel
theorem dX12_init_63 : decode cX12_init 63 = .ok (.aload_n 0, 1) := by decide +kernel
theorem dX12_init_64 : decode cX12_init 64 = .ok (.bipush 16, 2) := by decide +kernel
theorem dX12_init_66 : decode cX12_init 66 = .ok (.newarray .int, 2) := by decide +kernel
theorem dX12_init_68 : decode cX12_init 68 = .ok (.putfield 31, 3) := by decide +kernel
theorem dX12_init_71 : decode cX12_init 71 = .ok (.aload_n 0, 1) := by decide +kernel
theorem dX12_init_72 : decode cX12_init 72 = .ok (.bipush 16, 2) := by decide +kernel
theorem dX12_init_74 : decode cX12_init 74 = .ok (.newarray .int, 2) := by decide +kernel
theorem dX12_init_76 : decode cX12_init 76 = .ok (.putfield 34, 3) := by decide +kernel
theorem dX12_init_79 : decode cX12_init 79 = .ok (.aload_n 0, 1) := by decide +kernel
theorem dX12_init_80 : decode cX12_init 80 = .ok (.sipush 260, 3) := by decide +kernel
theorem dX12_init_83 : decode cX12_init 83 = .ok (.newarray .byte, 2) := by decide +kernel
theorem dX12_init_85 : decode cX12_init 85 = .ok (.putfield 37, 3) := by decide +kernel
theorem dX12_init_88 : decode cX12_init 88 = .ok (.aload_n 0, 1) := by decide +kernel
theorem dX12_init_89 : decode cX12_init 89 = .ok (.sipush 260, 3) := by decide +kernel
theorem dX12_init_92 : decode cX12_init 92 = .ok (.newarray .int, 2) := by decide +kernel
theorem dX12_init_94 : decode cX12_init 94 = .ok (.putfield 41, 3) := by decide +kernel
theorem dX12_init_97 : decode cX12_init 97 = .ok (.aload_n 0, 1) := by decide +kernel
theorem dX12_init_98 : decode cX12_init 98 = .ok (.sipush 260, 3) := by decide +kernel
theorem dX12_init_101 : decode cX12_init 101 = .ok (.newarray .int, 2) := by decide +kernel
theorem dX12_init_103 : decode cX12_init 103 = .ok (.putfield 44, 3) := by decide +kernel
theorem dX12_init_106 : decode cX12_init 106 = .ok (.aload_n 0, 1) := by decide +kernel
theorem dX12_init_107 : decode cX12_init 107 = .ok (.bipush 16, 2) := by decide +kernel
theorem dX12_init_109 : decode cX12_init 109 = .ok (.newarray .int, 2) := by decide +kernel
theorem dX12_init_111 : decode cX12_init 111 = .ok (.putfield 47, 3) := by decide +kernel
theorem dX12_init_114 : decode cX12_init 114 = .ok (.aload_n 0, 1) := by decide +kernel
theorem dX12_init_115 : decode cX12_init 115 = .ok (.bipush 16, 2) := by decide +kernel
theorem dX12_init_117 : decode cX12_init 117 = .ok (.newarray .int, 2) := by decide +kernel
theorem dX12_init_119 : decode cX12_init 119 = .ok (.putfield 50, 3) := by decide +kernel
theorem dX12_init_122 : decode cX12_init 122 = .ok (.aload_n 0, 1) := by decide +kernel
theorem dX12_init_123 : decode cX12_init 123 = .ok (.bipush 16, 2) := by decide +kernel
theorem dX12_init_125 : decode cX12_init 125 = .ok (.newarray .int, 2) := by decide +kernel
theorem dX12_init_127 : decode cX12_init 127 = .ok (.putfield 53, 3) := by decide +kernel
theorem dX12_init_130 : decode cX12_init 130 = .ok (.aload_n 0, 1) := by decide +kernel
theorem dX12_init_131 : decode cX12_init 131 = .ok (.bipush 16, 2) := by decide +kernel
theorem dX12_init_133 : decode cX12_init 133 = .ok (.newarray .int, 2) := by decide +kernel
theorem dX12_init_135 : decode cX12_init 135 = .ok (.putfield 56, 3) := by decide +kernel
theorem dX12_init_138 : decode cX12_init 138 = .ok (.aload_n 0, 1) := by decide +kernel
theorem dX12_init_139 : decode cX12_init 139 = .ok (.sipush 260, 3) := by decide +kernel
theorem dX12_init_142 : decode cX12_init 142 = .ok (.newarray .int, 2) := by decide +kernel
theorem dX12_init_144 : decode cX12_init 144 = .ok (.putfield 59, 3) := by decide +kernel
theorem dX12_init_147 : decode cX12_init 147 = .ok (.aload_n 0, 1) := by decide +kernel
theorem dX12_init_148 : decode cX12_init 148 = .ok (.bipush 16, 2) := by decide +kernel
theorem dX12_init_150 : decode cX12_init 150 = .ok (.newarray .int, 2) := by decide +kernel
theorem dX12_init_152 : decode cX12_init 152 = .ok (.putfield 62, 3) := by decide +kernel
theorem dX12_init_155 : decode cX12_init 155 = .ok (.aload_n 0, 1) := by decide +kernel
theorem dX12_init_156 : decode cX12_init 156 = .ok (.bipush 16, 2) := by decide +kernel
theorem dX12_init_158 : decode cX12_init 158 = .ok (.newarray .int, 2) := by decide +kernel
theorem dX12_init_160 : decode cX12_init 160 = .ok (.putfield 65, 3) := by decide +kernel
theorem dX12_init_163 : decode cX12_init 163 = .ok (.aload_n 0, 1) := by decide +kernel
theorem dX12_init_164 : decode cX12_init 164 = .ok (.bipush 16, 2) := by decide +kernel
theorem dX12_init_166 : decode cX12_init 166 = .ok (.newarray .int, 2) := by decide +kernel
theorem dX12_init_168 : decode cX12_init 168 = .ok (.putfield 68, 3) := by decide +kernel
theorem dX12_init_171 : decode cX12_init 171 = .ok (.aload_n 0, 1) := by decide +kernel
theorem dX12_init_172 : decode cX12_init 172 = .ok (.bipush 16, 2) := by decide +kernel
theorem dX12_init_174 : decode cX12_init 174 = .ok (.newarray .int, 2) := by decide +kernel
theorem dX12_init_176 : decode cX12_init 176 = .ok (.putfield 71, 3) := by decide +kernel
theorem dX12_init_179 : decode cX12_init 179 = .ok (.aload_n 0, 1) := by decide +kernel
theorem dX12_init_180 : decode cX12_init 180 = .ok (.sipush 260, 3) := by decide +kernel
theorem dX12_init_183 : decode cX12_init 183 = .ok (.newarray .int, 2) := by decide +kernel
theorem dX12_init_185 : decode cX12_init 185 = .ok (.putfield 74, 3) := by decide +kernel
theorem dX12_init_188 : decode cX12_init 188 = .ok (.aload_n 0, 1) := by decide +kernel
theorem dX12_init_189 : decode cX12_init 189 = .ok (.bipush 10, 2) := by decide +kernel
theorem dX12_init_191 : decode cX12_init 191 = .ok (.newarray .int, 2) := by decide +kernel
theorem dX12_init_193 : decode cX12_init 193 = .ok (.putfield 77, 3) := by decide +kernel
theorem dX12_init_196 : decode cX12_init 196 = .ok (.aload_n 0, 1) := by decide +kernel
theorem dX12_init_197 : decode cX12_init 197 = .ok (.bipush 12, 2) := by decide +kernel
theorem dX12_init_199 : decode cX12_init 199 = .ok (.newarray .int, 2) := by decide +kernel
theorem dX12_init_201 : decode cX12_init 201 = .ok (.putfield 80, 3) := by decide +kernel
theorem dX12_init_204 : decode cX12_init 204 = .ok (.aload_n 0, 1) := by decide +kernel
theorem dX12_init_205 : decode cX12_init 205 = .ok (.sipush 144, 3) := by decide +kernel
theorem dX12_init_208 : decode cX12_init 208 = .ok (.newarray .int, 2) := by decide +kernel
theorem dX12_init_210 : decode cX12_init 210 = .ok (.putfield 83, 3) := by decide +kernel
theorem dX12_init_213 : decode cX12_init 213 = .ok (.aload_n 0, 1) := by decide +kernel
theorem dX12_init_214 : decode cX12_init 214 = .ok (.sipush 4096, 3) := by decide +kernel
theorem dX12_init_217 : decode cX12_init 217 = .ok (.newarray .boolean, 2) := by decide +kernel
theorem dX12_init_219 : decode cX12_init 219 = .ok (.putfield 86, 3) := by decide +kernel
theorem dX12_init_222 : decode cX12_init 222 = .ok (.aload_n 0, 1) := by decide +kernel
theorem dX12_init_223 : decode cX12_init 223 = .ok (.sipush 4096, 3) := by decide +kernel
theorem dX12_init_226 : decode cX12_init 226 = .ok (.newarray .int, 2) := by decide +kernel
theorem dX12_init_228 : decode cX12_init 228 = .ok (.putfield 90, 3) := by decide +kernel
theorem dX12_init_231 : decode cX12_init 231 = .ok (.aload_n 0, 1) := by decide +kernel
theorem dX12_init_232 : decode cX12_init 232 = .ok (.bipush 16, 2) := by decide +kernel
theorem dX12_init_234 : decode cX12_init 234 = .ok (.newarray .int, 2) := by decide +kernel
theorem dX12_init_236 : decode cX12_init 236 = .ok (.putfield 93, 3) := by decide +kernel
theorem dX12_init_239 : decode cX12_init 239 = .ok (.aload_n 0, 1) := by decide +kernel
theorem dX12_init_240 : decode cX12_init 240 = .ok (.bipush 6, 2) := by decide +kernel
theorem dX12_init_242 : decode cX12_init 242 = .ok (.newarray .int, 2) := by decide +kernel
theorem dX12_init_244 : decode cX12_init 244 = .ok (.putfield 96, 3) := by decide +kernel
theorem dX12_init_247 : decode cX12_init 247 = .ok (.aload_n 0, 1) := by decide +kernel
theorem dX12_init_248 : decode cX12_init 248 = .ok (.sipush 129, 3) := by decide +kernel
theorem dX12_init_251 : decode cX12_init 251 = .ok (.newarray .long, 2) := by decide +kernel
theorem dX12_init_253 : decode cX12_init 253 = .ok (.putfield 99, 3) := by decide +kernel
theorem dX12_init_256 : decode cX12_init 256 = .ok (.aload_n 0, 1) := by decide +kernel
theorem dX12_init_257 : decode cX12_init 257 = .ok (.sipush 129, 3) := by decide +kernel
theorem dX12_init_260 : decode cX12_init 260 = .ok (.newarray .long, 2) := by decide +kernel
theorem dX12_init_262 : decode cX12_init 262 = .ok (.putfield 103, 3) := by decide +kernel
theorem dX12_init_265 : decode cX12_init 265 = .ok (.aload_n 0, 1) := by decide +kernel
theorem dX12_init_266 : decode cX12_init 266 = .ok (.ldc 106, 2) := by decide +kernel
theorem dX12_init_268 : decode cX12_init 268 = .ok (.newarray .int, 2) := by decide +kernel
theorem dX12_init_270 : decode cX12_init 270 = .ok (.putfield 107, 3) := by decide +kernel
theorem dX12_init_273 : decode cX12_init 273 = .ok (.aload_n 0, 1) := by decide +kernel
theorem dX12_init_274 : decode cX12_init 274 = .ok (.getfield 7, 3) := by decide +kernel
theorem dX12_init_277 : decode cX12_init 277 = .ok (.sipush 209, 3) := by decide +kernel
theorem dX12_init_280 : decode cX12_init 280 = .ok (.iconst 1, 1) := by decide +kernel
theorem dX12_init_281 : decode cX12_init 281 = .ok (.iastore, 1) := by decide +kernel
theorem dX12_init_282 : decode cX12_init 282 = .ok (.return_, 1) := by decide +kernel
theorem dX12_in_0 : decode cX12_in 0 = .ok (.iload_n 0, 1) := by decide +kernel
theorem dX12_in_1 : decode cX12_in 1 = .ok (.iload_n 1, 1) := by decide +kernel
theorem dX12_in_2 : decode cX12_in 2 = .ok (.if_icmp .lt 12, 3) := by decide +kernel
theorem dX12_in_5 : decode cX12_in 5 = .ok (.iload_n 0, 1) := by decide +kernel
theorem dX12_in_6 : decode cX12_in 6 = .ok (.iload_n 2, 1) := by decide +kernel
theorem dX12_in_7 : decode cX12_in 7 = .ok (.if_icmp .gt 7, 3) := by decide +kernel
theorem dX12_in_10 : decode cX12_in 10 = .ok (.iconst 1, 1) := by decide +kernel
theorem dX12_in_11 : decode cX12_in 11 = .ok (.goto 4, 3) := by decide +kernel
theorem dX12_in_14 : decode cX12_in 14 = .ok (.iconst 0, 1) := by decide +kernel
theorem dX12_in_15 : decode cX12_in 15 = .ok (.ireturn, 1) := by decide +kernel
theorem dX12_min_0 : decode cX12_min 0 = .ok (.iload_n 0, 1) := by decide +kernel
theorem dX12_min_1 : decode cX12_min 1 = .ok (.iload_n 1, 1) := by decide +kernel
theorem dX12_min_2 : decode cX12_min 2 = .ok (.if_icmp .ge 7, 3) := by decide +kernel
theorem dX12_min_5 : decode cX12_min 5 = .ok (.iload_n 0, 1) := by decide +kernel
theorem dX12_min_6 : decode cX12_min 6 = .ok (.goto 4, 3) := by decide +kernel
theorem dX12_min_9 : decode cX12_min 9 = .ok (.iload_n 1, 1) := by decide +kernel
theorem dX12_min_10 : decode cX12_min 10 = .ok (.ireturn, 1) := by decide +kernel
theorem dX12_max_0 : decode cX12_max 0 = .ok (.iload_n 0, 1) := by decide +kernel
theorem dX12_max_1 : decode cX12_max 1 = .ok (.iload_n 1, 1) := by decide +kernel
theorem dX12_max_2 : decode cX12_max 2 = .ok (.if_icmp .le 7, 3) := by decide +kernel
theorem dX12_max_5 : decode cX12_max 5 = .ok (.iload_n 0, 1) := by decide +kernel
theorem dX12_max_6 : decode cX12_max 6 = .ok (.goto 4, 3) := by decide +kernel
theorem dX12_max_9 : decode cX12_max 9 = .ok (.iload_n 1, 1) := by decide +kernel
theorem dX12_max_10 : decode cX12_max 10 = .ok (.ireturn, 1) := by decide +kernel
theorem dX12_size_0 : decode cX12_size 0 = .ok (.iload_n 0, 1) := by decide +kernel
theorem dX12_size_1 : decode cX12_size 1 = .ok (.ifCond .ge 8, 3) := by decide +kernel
theorem dX12_size_4 : decode cX12_size 4 = .ok (.iload_n 0, 1) := by decide +kernel
theorem dX12_size_5 : decode cX12_size 5 = .ok (.ineg, 1) := by decide +kernel
theorem dX12_size_6 : decode cX12_size 6 = .ok (.goto 4, 3) := by decide +kernel
theorem dX12_size_9 : decode cX12_size 9 = .ok (.iload_n 0, 1) := by decide +kernel
theorem dX12_size_10 : decode cX12_size 10 = .ok (.ireturn, 1) := by decide +kernel
theorem dX12_limit_0 : decode cX12_limit 0 = .ok (.iconst 0, 1) := by decide +kernel
theorem dX12_limit_1 : decode cX12_limit 1 = .ok (.bipush 99, 2) := by decide +kernel
theorem dX12_limit_3 : decode cX12_limit 3 = .ok (.iload_n 0, 1) := by decide +kernel
theorem dX12_limit_4 : decode cX12_limit 4 = .ok (.invokestatic 110, 3) := by decide +kernel
theorem dX12_limit_7 : decode cX12_limit 7 = .ok (.invokestatic 114, 3) := by decide +kernel
theorem dX12_limit_10 : decode cX12_limit 10 = .ok (.ireturn, 1) := by decide +kernel
theorem dX12_has_0 : decode cX12_has 0 = .ok (.iload_n 0, 1) := by decide +kernel
theorem dX12_has_1 : decode cX12_has 1 = .ok (.iload_n 1, 1) := by decide +kernel
theorem dX12_has_2 : decode cX12_has 2 = .ok (.ishr, 1) := by decide +kernel
theorem dX12_has_3 : decode cX12_has 3 = .ok (.iconst 1, 1) := by decide +kernel
theorem dX12_has_4 : decode cX12_has 4 = .ok (.iand, 1) := by decide +kernel
theorem dX12_has_5 : decode cX12_has 5 = .ok (.iconst 1, 1) := by decide +kernel
theorem dX12_has_6 : decode cX12_has 6 = .ok (.if_icmp .ne 7, 3) := by decide +kernel
theorem dX12_has_9 : decode cX12_has 9 = .ok (.iconst 1, 1) := by decide +kernel
theorem dX12_has_10 : decode cX12_has 10 = .ok (.goto 4, 3) := by decide +kernel
theorem dX12_has_13 : decode cX12_has 13 = .ok (.iconst 0, 1) := by decide +kernel
theorem dX12_has_14 : decode cX12_has 14 = .ok (.ireturn, 1) := by decide +kernel
theorem dX12_bits_0 : decode cX12_bits 0 = .ok (.iconst 0, 1) := by decide +kernel
theorem dX12_bits_1 : decode cX12_bits 1 = .ok (.istore_n 1, 1) := by decide +kernel
theorem dX12_bits_2 : decode cX12_bits 2 = .ok (.iconst 0, 1) := by decide +kernel
theorem dX12_bits_3 : decode cX12_bits 3 = .ok (.istore_n 2, 1) := by decide +kernel
theorem dX12_bits_4 : decode cX12_bits 4 = .ok (.iload_n 2, 1) := by decide +kernel
theorem dX12_bits_5 : decode cX12_bits 5 = .ok (.bipush 16, 2) := by decide +kernel
theorem dX12_bits_7 : decode cX12_bits 7 = .ok (.if_icmp .ge 17, 3) := by decide +kernel
theorem dX12_bits_10 : decode cX12_bits 10 = .ok (.iload_n 1, 1) := by decide +kernel
theorem dX12_bits_11 : decode cX12_bits 11 = .ok (.iload_n 0, 1) := by decide +kernel
theorem dX12_bits_12 : decode cX12_bits 12 = .ok (.iload_n 2, 1) := by decide +kernel
theorem dX12_bits_13 : decode cX12_bits 13 = .ok (.ishr, 1) := by decide +kernel
theorem dX12_bits_14 : decode cX12_bits 14 = .ok (.iconst 1, 1) := by decide +kernel
theorem dX12_bits_15 : decode cX12_bits 15 = .ok (.iand, 1) := by decide +kernel
theorem dX12_bits_16 : decode cX12_bits 16 = .ok (.iadd, 1) := by decide +kernel
theorem dX12_bits_17 : decode cX12_bits 17 = .ok (.istore_n 1, 1) := by decide +kernel
theorem dX12_bits_18 : decode cX12_bits 18 = .ok (.iinc 2 1, 3) := by decide +kernel
theorem dX12_bits_21 : decode cX12_bits 21 = .ok (.goto (-17), 3) := by decide +kernel
theorem dX12_bits_24 : decode cX12_bits 24 = .ok (.iload_n 1, 1) := by decide +kernel
theorem dX12_bits_25 : decode cX12_bits 25 = .ok (.ireturn, 1) := by decide +kernel
theorem dX12_copies_0 : decode cX12_copies 0 = .ok (.iconst 0, 1) := by decide +kernel
theorem dX12_copies_1 : decode cX12_copies 1 = .ok (.istore_n 2, 1) := by decide +kernel
theorem dX12_copies_2 : decode cX12_copies 2 = .ok (.iload_n 2, 1) := by decide +kernel
theorem dX12_copies_3 : decode cX12_copies 3 = .ok (.sipush 210, 3) := by decide +kernel
theorem dX12_copies_6 : decode cX12_copies 6 = .ok (.if_icmp .ge 15, 3) := by decide +kernel
theorem dX12_copies_9 : decode cX12_copies 9 = .ok (.aload_n 1, 1) := by decide +kernel
theorem dX12_copies_10 : decode cX12_copies 10 = .ok (.iload_n 2, 1) := by decide +kernel
theorem dX12_copies_11 : decode cX12_copies 11 = .ok (.aload_n 0, 1) := by decide +kernel
theorem dX12_copies_12 : decode cX12_copies 12 = .ok (.iload_n 2, 1) := by decide +kernel
theorem dX12_copies_13 : decode cX12_copies 13 = .ok (.iaload, 1) := by decide +kernel
theorem dX12_copies_14 : decode cX12_copies 14 = .ok (.iastore, 1) := by decide +kernel
theorem dX12_copies_15 : decode cX12_copies 15 = .ok (.iinc 2 1, 3) := by decide +kernel
theorem dX12_copies_18 : decode cX12_copies 18 = .ok (.goto (-16), 3) := by decide +kernel
theorem dX12_copies_21 : decode cX12_copies 21 = .ok (.return_, 1) := by decide +kernel
theorem dX12_isTold_0 : decode cX12_isTold 0 = .ok (.iload_n 1, 1) := by decide +kernel
theorem dX12_isTold_1 : decode cX12_isTold 1 = .ok (.iconst 0, 1) := by decide +kernel
theorem dX12_isTold_2 : decode cX12_isTold 2 = .ok (.bipush 11, 2) := by decide +kernel
theorem dX12_isTold_4 : decode cX12_isTold 4 = .ok (.invokestatic 117, 3) := by decide +kernel
theorem dX12_isTold_7 : decode cX12_isTold 7 = .ok (.ifCond .eq 18, 3) := by decide +kernel
theorem dX12_isTold_10 : decode cX12_isTold 10 = .ok (.aload_n 0, 1) := by decide +kernel
theorem dX12_isTold_11 : decode cX12_isTold 11 = .ok (.getfield 121, 3) := by decide +kernel
theorem dX12_isTold_14 : decode cX12_isTold 14 = .ok (.iload_n 1, 1) := by decide +kernel
theorem dX12_isTold_15 : decode cX12_isTold 15 = .ok (.invokestatic 125, 3) := by decide +kernel
theorem dX12_isTold_18 : decode cX12_isTold 18 = .ok (.ifCond .eq 7, 3) := by decide +kernel
theorem dX12_isTold_21 : decode cX12_isTold 21 = .ok (.iconst 1, 1) := by decide +kernel
theorem dX12_isTold_22 : decode cX12_isTold 22 = .ok (.goto 4, 3) := by decide +kernel
theorem dX12_isTold_25 : decode cX12_isTold 25 = .ok (.iconst 0, 1) := by decide +kernel
theorem dX12_isTold_26 : decode cX12_isTold 26 = .ok (.ireturn, 1) := by decide +kernel
theorem dX12_isDoor_0 : decode cX12_isDoor 0 = .ok (.iload_n 1, 1) := by decide +kernel
theorem dX12_isDoor_1 : decode cX12_isDoor 1 = .ok (.iconst 0, 1) := by decide +kernel
theorem dX12_isDoor_2 : decode cX12_isDoor 2 = .ok (.bipush 15, 2) := by decide +kernel
theorem dX12_isDoor_4 : decode cX12_isDoor 4 = .ok (.invokestatic 117, 3) := by decide +kernel
theorem dX12_isDoor_7 : decode cX12_isDoor 7 = .ok (.ifCond .eq 18, 3) := by decide +kernel
theorem dX12_isDoor_10 : decode cX12_isDoor 10 = .ok (.aload_n 0, 1) := by decide +kernel
theorem dX12_isDoor_11 : decode cX12_isDoor 11 = .ok (.getfield 129, 3) := by decide +kernel
theorem dX12_isDoor_14 : decode cX12_isDoor 14 = .ok (.iload_n 1, 1) := by decide +kernel
theorem dX12_isDoor_15 : decode cX12_isDoor 15 = .ok (.invokestatic 125, 3) := by decide +kernel
theorem dX12_isDoor_18 : decode cX12_isDoor 18 = .ok (.ifCond .eq 7, 3) := by decide +kernel
theorem dX12_isDoor_21 : decode cX12_isDoor 21 = .ok (.iconst 1, 1) := by decide +kernel
theorem dX12_isDoor_22 : decode cX12_isDoor 22 = .ok (.goto 4, 3) := by decide +kernel
theorem dX12_isDoor_25 : decode cX12_isDoor 25 = .ok (.iconst 0, 1) := by decide +kernel
theorem dX12_isDoor_26 : decode cX12_isDoor 26 = .ok (.ireturn, 1) := by decide +kernel
theorem dX12_dread_0 : decode cX12_dread 0 = .ok (.aload_n 0, 1) := by decide +kernel
theorem dX12_dread_1 : decode cX12_dread 1 = .ok (.getfield 7, 3) := by decide +kernel
theorem dX12_dread_4 : decode cX12_dread 4 = .ok (.iconst 0, 1) := by decide +kernel
theorem dX12_dread_5 : decode cX12_dread 5 = .ok (.bipush 16, 2) := by decide +kernel
theorem dX12_dread_7 : decode cX12_dread 7 = .ok (.iload_n 1, 1) := by decide +kernel
theorem dX12_dread_8 : decode cX12_dread 8 = .ok (.imul, 1) := by decide +kernel
theorem dX12_dread_9 : decode cX12_dread 9 = .ok (.iadd, 1) := by decide +kernel
theorem dX12_dread_10 : decode cX12_dread 10 = .ok (.iload_n 2, 1) := by decide +kernel
theorem dX12_dread_11 : decode cX12_dread 11 = .ok (.iadd, 1) := by decide +kernel
theorem dX12_dread_12 : decode cX12_dread 12 = .ok (.iaload, 1) := by decide +kernel
theorem dX12_dread_13 : decode cX12_dread 13 = .ok (.ireturn, 1) := by decide +kernel
theorem dX12_greatest_0 : decode cX12_greatest 0 = .ok (.iconst 0, 1) := by decide +kernel
theorem dX12_greatest_1 : decode cX12_greatest 1 = .ok (.istore_n 2, 1) := by decide +kernel
theorem dX12_greatest_2 : decode cX12_greatest 2 = .ok (.iconst 0, 1) := by decide +kernel
theorem dX12_greatest_3 : decode cX12_greatest 3 = .ok (.istore_n 3, 1) := by decide +kernel
theorem dX12_greatest_4 : decode cX12_greatest 4 = .ok (.iload_n 3, 1) := by decide +kernel
theorem dX12_greatest_5 : decode cX12_greatest 5 = .ok (.bipush 16, 2) := by decide +kernel
theorem dX12_greatest_7 : decode cX12_greatest 7 = .ok (.if_icmp .ge 20, 3) := by decide +kernel
theorem dX12_greatest_10 : decode cX12_greatest 10 = .ok (.iload_n 2, 1) := by decide +kernel
theorem dX12_greatest_11 : decode cX12_greatest 11 = .ok (.aload_n 0, 1) := by decide +kernel
theorem dX12_greatest_12 : decode cX12_greatest 12 = .ok (.iload_n 1, 1) := by decide +kernel
theorem dX12_greatest_13 : decode cX12_greatest 13 = .ok (.iload_n 3, 1) := by decide +kernel
theorem dX12_greatest_14 : decode cX12_greatest 14 = .ok (.invokevirtual 132, 3) := by decide +kernel
theorem dX12_greatest_17 : decode cX12_greatest 17 = .ok (.invokestatic 114, 3) := by decide +kernel
theorem dX12_greatest_20 : decode cX12_greatest 20 = .ok (.istore_n 2, 1) := by decide +kernel
theorem dX12_greatest_21 : decode cX12_greatest 21 = .ok (.iinc 3 1, 3) := by decide +kernel
theorem dX12_greatest_24 : decode cX12_greatest 24 = .ok (.goto (-20), 3) := by decide +kernel
theorem dX12_greatest_27 : decode cX12_greatest 27 = .ok (.iload_n 2, 1) := by decide +kernel
theorem dX12_greatest_28 : decode cX12_greatest 28 = .ok (.ireturn, 1) := by decide +kernel
theorem dX12_fearOf_0 : decode cX12_fearOf 0 = .ok (.aload_n 0, 1) := by decide +kernel
theorem dX12_fearOf_1 : decode cX12_fearOf 1 = .ok (.iload_n 1, 1) := by decide +kernel
theorem dX12_fearOf_2 : decode cX12_fearOf 2 = .ok (.invokevirtual 135, 3) := by decide +kernel
theorem dX12_fearOf_5 : decode cX12_fearOf 5 = .ok (.istore_n 2, 1) := by decide +kernel
theorem dX12_fearOf_6 : decode cX12_fearOf 6 = .ok (.iconst (-1), 1) := by decide +kernel
theorem dX12_fearOf_7 : decode cX12_fearOf 7 = .ok (.istore_n 3, 1) := by decide +kernel
theorem dX12_fearOf_8 : decode cX12_fearOf 8 = .ok (.iconst 0, 1) := by decide +kernel
theorem dX12_fearOf_9 : decode cX12_fearOf 9 = .ok (.istore 4, 2) := by decide +kernel
theorem dX12_fearOf_11 : decode cX12_fearOf 11 = .ok (.iconst 0, 1) := by decide +kernel
theorem dX12_fearOf_12 : decode cX12_fearOf 12 = .ok (.istore 5, 2) := by decide +kernel
theorem dX12_fearOf_14 : decode cX12_fearOf 14 = .ok (.iload 5, 2) := by decide +kernel
theorem dX12_fearOf_16 : decode cX12_fearOf 16 = .ok (.bipush 16, 2) := by decide +kernel
theorem dX12_fearOf_18 : decode cX12_fearOf 18 = .ok (.if_icmp .ge 32, 3) := by decide +kernel
theorem dX12_fearOf_21 : decode cX12_fearOf 21 = .ok (.aload_n 0, 1) := by decide +kernel
theorem dX12_fearOf_22 : decode cX12_fearOf 22 = .ok (.iload_n 1, 1) := by decide +kernel
theorem dX12_fearOf_23 : decode cX12_fearOf 23 = .ok (.iload 5, 2) := by decide +kernel
theorem dX12_fearOf_25 : decode cX12_fearOf 25 = .ok (.invokevirtual 132, 3) := by decide +kernel
theorem dX12_fearOf_28 : decode cX12_fearOf 28 = .ok (.iload_n 2, 1) := by decide +kernel
theorem dX12_fearOf_29 : decode cX12_fearOf 29 = .ok (.if_icmp .eq 6, 3) := by decide +kernel
theorem dX12_fearOf_32 : decode cX12_fearOf 32 = .ok (.goto 12, 3) := by decide +kernel
theorem dX12_fearOf_35 : decode cX12_fearOf 35 = .ok (.iload 5, 2) := by decide +kernel
theorem dX12_fearOf_37 : decode cX12_fearOf 37 = .ok (.istore_n 3, 1) := by decide +kernel
theorem dX12_fearOf_38 : decode cX12_fearOf 38 = .ok (.iload 4, 2) := by decide +kernel
theorem dX12_fearOf_40 : decode cX12_fearOf 40 = .ok (.iconst 1, 1) := by decide +kernel
theorem dX12_fearOf_41 : decode cX12_fearOf 41 = .ok (.iadd, 1) := by decide +kernel
theorem dX12_fearOf_42 : decode cX12_fearOf 42 = .ok (.istore 4, 2) := by decide +kernel
theorem dX12_fearOf_44 : decode cX12_fearOf 44 = .ok (.iinc 5 1, 3) := by decide +kernel
theorem dX12_fearOf_47 : decode cX12_fearOf 47 = .ok (.goto (-33), 3) := by decide +kernel
theorem dX12_fearOf_50 : decode cX12_fearOf 50 = .ok (.iload_n 2, 1) := by decide +kernel
theorem dX12_fearOf_51 : decode cX12_fearOf 51 = .ok (.ifCond .le 13, 3) := by decide +kernel
theorem dX12_fearOf_54 : decode cX12_fearOf 54 = .ok (.iload 4, 2) := by decide +kernel
theorem dX12_fearOf_56 : decode cX12_fearOf 56 = .ok (.iconst 1, 1) := by decide +kernel
theorem dX12_fearOf_57 : decode cX12_fearOf 57 = .ok (.if_icmp .ne 7, 3) := by decide +kernel
theorem dX12_fearOf_60 : decode cX12_fearOf 60 = .ok (.iload_n 3, 1) := by decide +kernel
theorem dX12_fearOf_61 : decode cX12_fearOf 61 = .ok (.goto 4, 3) := by decide +kernel
theorem dX12_fearOf_64 : decode cX12_fearOf 64 = .ok (.iconst (-1), 1) := by decide +kernel
theorem dX12_fearOf_65 : decode cX12_fearOf 65 = .ok (.ireturn, 1) := by decide +kernel
theorem dX12_unlocks_0 : decode cX12_unlocks 0 = .ok (.aload_n 0, 1) := by decide +kernel
theorem dX12_unlocks_1 : decode cX12_unlocks 1 = .ok (.iload_n 1, 1) := by decide +kernel
theorem dX12_unlocks_2 : decode cX12_unlocks 2 = .ok (.invokevirtual 139, 3) := by decide +kernel
theorem dX12_unlocks_5 : decode cX12_unlocks 5 = .ok (.aload_n 0, 1) := by decide +kernel
theorem dX12_unlocks_6 : decode cX12_unlocks 6 = .ok (.getfield 25, 3) := by decide +kernel
theorem dX12_unlocks_9 : decode cX12_unlocks 9 = .ok (.iload_n 2, 1) := by decide +kernel
theorem dX12_unlocks_10 : decode cX12_unlocks 10 = .ok (.iaload, 1) := by decide +kernel
theorem dX12_unlocks_11 : decode cX12_unlocks 11 = .ok (.if_icmp .ne 27, 3) := by decide +kernel
theorem dX12_unlocks_14 : decode cX12_unlocks 14 = .ok (.aload_n 0, 1) := by decide +kernel
theorem dX12_unlocks_15 : decode cX12_unlocks 15 = .ok (.iload_n 1, 1) := by decide +kernel
theorem dX12_unlocks_16 : decode cX12_unlocks 16 = .ok (.aload_n 0, 1) := by decide +kernel
theorem dX12_unlocks_17 : decode cX12_unlocks 17 = .ok (.getfield 25, 3) := by decide +kernel
theorem dX12_unlocks_20 : decode cX12_unlocks 20 = .ok (.iload_n 2, 1) := by decide +kernel
theorem dX12_unlocks_21 : decode cX12_unlocks 21 = .ok (.iaload, 1) := by decide +kernel
theorem dX12_unlocks_22 : decode cX12_unlocks 22 = .ok (.invokevirtual 132, 3) := by decide +kernel
theorem dX12_unlocks_25 : decode cX12_unlocks 25 = .ok (.aload_n 0, 1) := by decide +kernel
theorem dX12_unlocks_26 : decode cX12_unlocks 26 = .ok (.getfield 28, 3) := by decide +kernel
theorem dX12_unlocks_29 : decode cX12_unlocks 29 = .ok (.iload_n 2, 1) := by decide +kernel
theorem dX12_unlocks_30 : decode cX12_unlocks 30 = .ok (.iaload, 1) := by decide +kernel
theorem dX12_unlocks_31 : decode cX12_unlocks 31 = .ok (.if_icmp .lt 7, 3) := by decide +kernel
theorem dX12_unlocks_34 : decode cX12_unlocks 34 = .ok (.iconst 1, 1) := by decide +kernel
theorem dX12_unlocks_35 : decode cX12_unlocks 35 = .ok (.goto 4, 3) := by decide +kernel
theorem dX12_unlocks_38 : decode cX12_unlocks 38 = .ok (.iconst 0, 1) := by decide +kernel
theorem dX12_unlocks_39 : decode cX12_unlocks 39 = .ok (.ireturn, 1) := by decide +kernel
theorem dX12_doorsOf_0 : decode cX12_doorsOf 0 = .ok (.iconst 0, 1) := by decide +kernel
theorem dX12_doorsOf_1 : decode cX12_doorsOf 1 = .ok (.istore_n 2, 1) := by decide +kernel
theorem dX12_doorsOf_2 : decode cX12_doorsOf 2 = .ok (.iconst 0, 1) := by decide +kernel
theorem dX12_doorsOf_3 : decode cX12_doorsOf 3 = .ok (.istore_n 3, 1) := by decide +kernel
theorem dX12_doorsOf_4 : decode cX12_doorsOf 4 = .ok (.iload_n 3, 1) := by decide +kernel
theorem dX12_doorsOf_5 : decode cX12_doorsOf 5 = .ok (.bipush 16, 2) := by decide +kernel
theorem dX12_doorsOf_7 : decode cX12_doorsOf 7 = .ok (.if_icmp .ge 32, 3) := by decide +kernel
theorem dX12_doorsOf_10 : decode cX12_doorsOf 10 = .ok (.aload_n 0, 1) := by decide +kernel
theorem dX12_doorsOf_11 : decode cX12_doorsOf 11 = .ok (.iload_n 3, 1) := by decide +kernel
theorem dX12_doorsOf_12 : decode cX12_doorsOf 12 = .ok (.invokevirtual 142, 3) := by decide +kernel
theorem dX12_doorsOf_15 : decode cX12_doorsOf 15 = .ok (.ifCond .eq 18, 3) := by decide +kernel
theorem dX12_doorsOf_18 : decode cX12_doorsOf 18 = .ok (.aload_n 0, 1) := by decide +kernel
theorem dX12_doorsOf_19 : decode cX12_doorsOf 19 = .ok (.iload_n 1, 1) := by decide +kernel
theorem dX12_doorsOf_20 : decode cX12_doorsOf 20 = .ok (.iload_n 3, 1) := by decide +kernel
theorem dX12_doorsOf_21 : decode cX12_doorsOf 21 = .ok (.invokevirtual 146, 3) := by decide +kernel
theorem dX12_doorsOf_24 : decode cX12_doorsOf 24 = .ok (.ifCond .eq 9, 3) := by decide +kernel
theorem dX12_doorsOf_27 : decode cX12_doorsOf 27 = .ok (.iload_n 2, 1) := by decide +kernel
theorem dX12_doorsOf_28 : decode cX12_doorsOf 28 = .ok (.iconst 1, 1) := by decide +kernel
theorem dX12_doorsOf_29 : decode cX12_doorsOf 29 = .ok (.iload_n 3, 1) := by decide +kernel
theorem dX12_doorsOf_30 : decode cX12_doorsOf 30 = .ok (.ishl, 1) := by decide +kernel
theorem dX12_doorsOf_31 : decode cX12_doorsOf 31 = .ok (.ior, 1) := by decide +kernel
theorem dX12_doorsOf_32 : decode cX12_doorsOf 32 = .ok (.istore_n 2, 1) := by decide +kernel
theorem dX12_doorsOf_33 : decode cX12_doorsOf 33 = .ok (.iinc 3 1, 3) := by decide +kernel
theorem dX12_doorsOf_36 : decode cX12_doorsOf 36 = .ok (.goto (-32), 3) := by decide +kernel
theorem dX12_doorsOf_39 : decode cX12_doorsOf 39 = .ok (.iload_n 2, 1) := by decide +kernel
theorem dX12_doorsOf_40 : decode cX12_doorsOf 40 = .ok (.ireturn, 1) := by decide +kernel
theorem dX12_whoUnlocks_0 : decode cX12_whoUnlocks 0 = .ok (.iconst 0, 1) := by decide +kernel
theorem dX12_whoUnlocks_1 : decode cX12_whoUnlocks 1 = .ok (.istore_n 2, 1) := by decide +kernel
theorem dX12_whoUnlocks_2 : decode cX12_whoUnlocks 2 = .ok (.iconst 0, 1) := by decide +kernel
theorem dX12_whoUnlocks_3 : decode cX12_whoUnlocks 3 = .ok (.istore_n 3, 1) := by decide +kernel
theorem dX12_whoUnlocks_4 : decode cX12_whoUnlocks 4 = .ok (.iload_n 3, 1) := by decide +kernel
theorem dX12_whoUnlocks_5 : decode cX12_whoUnlocks 5 = .ok (.bipush 12, 2) := by decide +kernel
theorem dX12_whoUnlocks_7 : decode cX12_whoUnlocks 7 = .ok (.if_icmp .ge 32, 3) := by decide +kernel
theorem dX12_whoUnlocks_10 : decode cX12_whoUnlocks 10 = .ok (.aload_n 0, 1) := by decide +kernel
theorem dX12_whoUnlocks_11 : decode cX12_whoUnlocks 11 = .ok (.iload_n 3, 1) := by decide +kernel
theorem dX12_whoUnlocks_12 : decode cX12_whoUnlocks 12 = .ok (.invokevirtual 149, 3) := by decide +kernel
theorem dX12_whoUnlocks_15 : decode cX12_whoUnlocks 15 = .ok (.ifCond .eq 18, 3) := by decide +kernel
theorem dX12_whoUnlocks_18 : decode cX12_whoUnlocks 18 = .ok (.aload_n 0, 1) := by decide +kernel
theorem dX12_whoUnlocks_19 : decode cX12_whoUnlocks 19 = .ok (.iload_n 3, 1) := by decide +kernel
theorem dX12_whoUnlocks_20 : decode cX12_whoUnlocks 20 = .ok (.iload_n 1, 1) := by decide +kernel
theorem dX12_whoUnlocks_21 : decode cX12_whoUnlocks 21 = .ok (.invokevirtual 146, 3) := by decide +kernel
theorem dX12_whoUnlocks_24 : decode cX12_whoUnlocks 24 = .ok (.ifCond .eq 9, 3) := by decide +kernel
theorem dX12_whoUnlocks_27 : decode cX12_whoUnlocks 27 = .ok (.iload_n 2, 1) := by decide +kernel
theorem dX12_whoUnlocks_28 : decode cX12_whoUnlocks 28 = .ok (.iconst 1, 1) := by decide +kernel
theorem dX12_whoUnlocks_29 : decode cX12_whoUnlocks 29 = .ok (.iload_n 3, 1) := by decide +kernel
theorem dX12_whoUnlocks_30 : decode cX12_whoUnlocks 30 = .ok (.ishl, 1) := by decide +kernel
theorem dX12_whoUnlocks_31 : decode cX12_whoUnlocks 31 = .ok (.ior, 1) := by decide +kernel
theorem dX12_whoUnlocks_32 : decode cX12_whoUnlocks 32 = .ok (.istore_n 2, 1) := by decide +kernel
theorem dX12_whoUnlocks_33 : decode cX12_whoUnlocks 33 = .ok (.iinc 3 1, 3) := by decide +kernel
theorem dX12_whoUnlocks_36 : decode cX12_whoUnlocks 36 = .ok (.goto (-32), 3) := by decide +kernel
theorem dX12_whoUnlocks_39 : decode cX12_whoUnlocks 39 = .ok (.iload_n 2, 1) := by decide +kernel
theorem dX12_whoUnlocks_40 : decode cX12_whoUnlocks 40 = .ok (.ireturn, 1) := by decide +kernel
theorem dX12_types_0 : decode cX12_types 0 = .ok (.iconst 3, 1) := by decide +kernel
theorem dX12_types_1 : decode cX12_types 1 = .ok (.istore_n 2, 1) := by decide +kernel
theorem dX12_types_2 : decode cX12_types 2 = .ok (.iload_n 2, 1) := by decide +kernel
theorem dX12_types_3 : decode cX12_types 3 = .ok (.ifCond .lt 35, 3) := by decide +kernel
theorem dX12_types_6 : decode cX12_types 6 = .ok (.aload_n 0, 1) := by decide +kernel
theorem dX12_types_7 : decode cX12_types 7 = .ok (.getfield 37, 3) := by decide +kernel
theorem dX12_types_10 : decode cX12_types 10 = .ok (.aload_n 0, 1) := by decide +kernel
theorem dX12_types_11 : decode cX12_types 11 = .ok (.getfield 152, 3) := by decide +kernel
theorem dX12_types_14 : decode cX12_types 14 = .ok (.iload_n 1, 1) := by decide +kernel
theorem dX12_types_15 : decode cX12_types 15 = .ok (.bipush 8, 2) := by decide +kernel
theorem dX12_types_17 : decode cX12_types 17 = .ok (.iload_n 2, 1) := by decide +kernel
theorem dX12_types_18 : decode cX12_types 18 = .ok (.imul, 1) := by decide +kernel
theorem dX12_types_19 : decode cX12_types 19 = .ok (.ishr, 1) := by decide +kernel
theorem dX12_types_20 : decode cX12_types 20 = .ok (.i2b, 1) := by decide +kernel
theorem dX12_types_21 : decode cX12_types 21 = .ok (.bastore, 1) := by decide +kernel
theorem dX12_types_22 : decode cX12_types 22 = .ok (.aload_n 0, 1) := by decide +kernel
theorem dX12_types_23 : decode cX12_types 23 = .ok (.aload_n 0, 1) := by decide +kernel
theorem dX12_types_24 : decode cX12_types 24 = .ok (.getfield 152, 3) := by decide +kernel
theorem dX12_types_27 : decode cX12_types 27 = .ok (.iconst 1, 1) := by decide +kernel
theorem dX12_types_28 : decode cX12_types 28 = .ok (.iadd, 1) := by decide +kernel
theorem dX12_types_29 : decode cX12_types 29 = .ok (.putfield 152, 3) := by decide +kernel
theorem dX12_types_32 : decode cX12_types 32 = .ok (.iinc 2 (-1), 3) := by decide +kernel
theorem dX12_types_35 : decode cX12_types 35 = .ok (.goto (-33), 3) := by decide +kernel
theorem dX12_types_38 : decode cX12_types 38 = .ok (.return_, 1) := by decide +kernel
theorem dX12_feed_0 : decode cX12_feed 0 = .ok (.aload_n 0, 1) := by decide +kernel
theorem dX12_feed_1 : decode cX12_feed 1 = .ok (.getfield 152, 3) := by decide +kernel
theorem dX12_feed_4 : decode cX12_feed 4 = .ok (.bipush 20, 2) := by decide +kernel
theorem dX12_feed_6 : decode cX12_feed 6 = .ok (.iadd, 1) := by decide +kernel
theorem dX12_feed_7 : decode cX12_feed 7 = .ok (.sipush 260, 3) := by decide +kernel
theorem dX12_feed_10 : decode cX12_feed 10 = .ok (.if_icmp .le 5, 3) := by decide +kernel
theorem dX12_feed_13 : decode cX12_feed 13 = .ok (.iconst (-1), 1) := by decide +kernel
theorem dX12_feed_14 : decode cX12_feed 14 = .ok (.ireturn, 1) := by decide +kernel
theorem dX12_feed_15 : decode cX12_feed 15 = .ok (.aload_n 0, 1) := by decide +kernel
theorem dX12_feed_16 : decode cX12_feed 16 = .ok (.iload_n 1, 1) := by decide +kernel
theorem dX12_feed_17 : decode cX12_feed 17 = .ok (.invokevirtual 155, 3) := by decide +kernel
theorem dX12_feed_20 : decode cX12_feed 20 = .ok (.aload_n 0, 1) := by decide +kernel
theorem dX12_feed_21 : decode cX12_feed 21 = .ok (.iload_n 2, 1) := by decide +kernel
theorem dX12_feed_22 : decode cX12_feed 22 = .ok (.invokevirtual 155, 3) := by decide +kernel
theorem dX12_feed_25 : decode cX12_feed 25 = .ok (.aload_n 0, 1) := by decide +kernel
theorem dX12_feed_26 : decode cX12_feed 26 = .ok (.iload_n 3, 1) := by decide +kernel
theorem dX12_feed_27 : decode cX12_feed 27 = .ok (.invokevirtual 155, 3) := by decide +kernel
theorem dX12_feed_30 : decode cX12_feed 30 = .ok (.aload_n 0, 1) := by decide +kernel
theorem dX12_feed_31 : decode cX12_feed 31 = .ok (.iload 4, 2) := by decide +kernel
theorem dX12_feed_33 : decode cX12_feed 33 = .ok (.invokevirtual 155, 3) := by decide +kernel
theorem dX12_feed_36 : decode cX12_feed 36 = .ok (.aload_n 0, 1) := by decide +kernel
theorem dX12_feed_37 : decode cX12_feed 37 = .ok (.iload 5, 2) := by decide +kernel
theorem dX12_feed_39 : decode cX12_feed 39 = .ok (.invokevirtual 155, 3) := by decide +kernel
theorem dX12_feed_42 : decode cX12_feed 42 = .ok (.aload_n 0, 1) := by decide +kernel
theorem dX12_feed_43 : decode cX12_feed 43 = .ok (.getfield 152, 3) := by decide +kernel
theorem dX12_feed_46 : decode cX12_feed 46 = .ok (.ireturn, 1) := by decide +kernel
theorem dX12_octet_0 : decode cX12_octet 0 = .ok (.aload_n 0, 1) := by decide +kernel
theorem dX12_octet_1 : decode cX12_octet 1 = .ok (.getfield 37, 3) := by decide +kernel
theorem dX12_octet_4 : decode cX12_octet 4 = .ok (.iload_n 1, 1) := by decide +kernel
theorem dX12_octet_5 : decode cX12_octet 5 = .ok (.baload, 1) := by decide +kernel
theorem dX12_octet_6 : decode cX12_octet 6 = .ok (.sipush 255, 3) := by decide +kernel
theorem dX12_octet_9 : decode cX12_octet 9 = .ok (.iand, 1) := by decide +kernel
theorem dX12_octet_10 : decode cX12_octet 10 = .ok (.ireturn, 1) := by decide +kernel
theorem dX12_here_0 : decode cX12_here 0 = .ok (.aload_n 0, 1) := by decide +kernel
theorem dX12_here_1 : decode cX12_here 1 = .ok (.getfield 159, 3) := by decide +kernel
theorem dX12_here_4 : decode cX12_here 4 = .ok (.aload_n 0, 1) := by decide +kernel
theorem dX12_here_5 : decode cX12_here 5 = .ok (.getfield 162, 3) := by decide +kernel
theorem dX12_here_8 : decode cX12_here 8 = .ok (.if_icmp .ge 19, 3) := by decide +kernel
theorem dX12_here_11 : decode cX12_here 11 = .ok (.aload_n 0, 1) := by decide +kernel
theorem dX12_here_12 : decode cX12_here 12 = .ok (.getfield 37, 3) := by decide +kernel
theorem dX12_here_15 : decode cX12_here 15 = .ok (.aload_n 0, 1) := by decide +kernel
theorem dX12_here_16 : decode cX12_here 16 = .ok (.getfield 159, 3) := by decide +kernel
theorem dX12_here_19 : decode cX12_here 19 = .ok (.baload, 1) := by decide +kernel
theorem dX12_here_20 : decode cX12_here 20 = .ok (.sipush 255, 3) := by decide +kernel
theorem dX12_here_23 : decode cX12_here 23 = .ok (.iand, 1) := by decide +kernel
theorem dX12_here_24 : decode cX12_here 24 = .ok (.goto 4, 3) := by decide +kernel
theorem dX12_here_27 : decode cX12_here 27 = .ok (.iconst (-1), 1) := by decide +kernel
theorem dX12_here_28 : decode cX12_here 28 = .ok (.ireturn, 1) := by decide +kernel
theorem dX12_isDigit_0 : decode cX12_isDigit 0 = .ok (.aload_n 0, 1) := by decide +kernel
theorem dX12_isDigit_1 : decode cX12_isDigit 1 = .ok (.invokevirtual 165, 3) := by decide +kernel
theorem dX12_isDigit_4 : decode cX12_isDigit 4 = .ok (.bipush 48, 2) := by decide +kernel
theorem dX12_isDigit_6 : decode cX12_isDigit 6 = .ok (.if_icmp .lt 16, 3) := by decide +kernel
theorem dX12_isDigit_9 : decode cX12_isDigit 9 = .ok (.aload_n 0, 1) := by decide +kernel
theorem dX12_isDigit_10 : decode cX12_isDigit 10 = .ok (.invokevirtual 165, 3) := by decide +kernel
theorem dX12_isDigit_13 : decode cX12_isDigit 13 = .ok (.bipush 57, 2) := by decide +kernel
theorem dX12_isDigit_15 : decode cX12_isDigit 15 = .ok (.if_icmp .gt 7, 3) := by decide +kernel
theorem dX12_isDigit_18 : decode cX12_isDigit 18 = .ok (.iconst 1, 1) := by decide +kernel
theorem dX12_isDigit_19 : decode cX12_isDigit 19 = .ok (.goto 4, 3) := by decide +kernel
theorem dX12_isDigit_22 : decode cX12_isDigit 22 = .ok (.iconst 0, 1) := by decide +kernel
theorem dX12_isDigit_23 : decode cX12_isDigit 23 = .ok (.ireturn, 1) := by decide +kernel
theorem dX12_wrongAt_0 : decode cX12_wrongAt 0 = .ok (.aload_n 0, 1) := by decide +kernel
theorem dX12_wrongAt_1 : decode cX12_wrongAt 1 = .ok (.sipush (-1000), 3) := by decide +kernel
theorem dX12_wrongAt_4 : decode cX12_wrongAt 4 = .ok (.iload_n 1, 1) := by decide +kernel
theorem dX12_wrongAt_5 : decode cX12_wrongAt 5 = .ok (.imul, 1) := by decide +kernel
theorem dX12_wrongAt_6 : decode cX12_wrongAt 6 = .ok (.iload_n 2, 1) := by decide +kernel
theorem dX12_wrongAt_7 : decode cX12_wrongAt 7 = .ok (.isub, 1) := by decide +kernel
theorem dX12_wrongAt_8 : decode cX12_wrongAt 8 = .ok (.putfield 169, 3) := by decide +kernel
theorem dX12_wrongAt_11 : decode cX12_wrongAt 11 = .ok (.iconst 0, 1) := by decide +kernel
theorem dX12_wrongAt_12 : decode cX12_wrongAt 12 = .ok (.ireturn, 1) := by decide +kernel
theorem dX12_takes_0 : decode cX12_takes 0 = .ok (.aload_n 0, 1) := by decide +kernel
theorem dX12_takes_1 : decode cX12_takes 1 = .ok (.invokevirtual 165, 3) := by decide +kernel
theorem dX12_takes_4 : decode cX12_takes 4 = .ok (.iload_n 1, 1) := by decide +kernel
theorem dX12_takes_5 : decode cX12_takes 5 = .ok (.if_icmp .eq 13, 3) := by decide +kernel
theorem dX12_takes_8 : decode cX12_takes 8 = .ok (.aload_n 0, 1) := by decide +kernel
theorem dX12_takes_9 : decode cX12_takes 9 = .ok (.iconst 1, 1) := by decide +kernel
theorem dX12_takes_10 : decode cX12_takes 10 = .ok (.aload_n 0, 1) := by decide +kernel
theorem dX12_takes_11 : decode cX12_takes 11 = .ok (.getfield 159, 3) := by decide +kernel
theorem dX12_takes_14 : decode cX12_takes 14 = .ok (.invokevirtual 172, 3) := by decide +kernel
theorem dX12_takes_17 : decode cX12_takes 17 = .ok (.ireturn, 1) := by decide +kernel
theorem dX12_takes_18 : decode cX12_takes 18 = .ok (.aload_n 0, 1) := by decide +kernel
theorem dX12_takes_19 : decode cX12_takes 19 = .ok (.aload_n 0, 1) := by decide +kernel
theorem dX12_takes_20 : decode cX12_takes 20 = .ok (.getfield 159, 3) := by decide +kernel
theorem dX12_takes_23 : decode cX12_takes 23 = .ok (.iconst 1, 1) := by decide +kernel
theorem dX12_takes_24 : decode cX12_takes 24 = .ok (.iadd, 1) := by decide +kernel
theorem dX12_takes_25 : decode cX12_takes 25 = .ok (.putfield 159, 3) := by decide +kernel
theorem dX12_takes_28 : decode cX12_takes 28 = .ok (.iconst 1, 1) := by decide +kernel
theorem dX12_takes_29 : decode cX12_takes 29 = .ok (.ireturn, 1) := by decide +kernel
theorem dX12_readsNumber_0 : decode cX12_readsNumber 0 = .ok (.aload_n 0, 1) := by decide +kernel
theorem dX12_readsNumber_1 : decode cX12_readsNumber 1 = .ok (.getfield 159, 3) := by decide +kernel
theorem dX12_readsNumber_4 : decode cX12_readsNumber 4 = .ok (.istore_n 1, 1) := by decide +kernel
theorem dX12_readsNumber_5 : decode cX12_readsNumber 5 = .ok (.aload_n 0, 1) := by decide +kernel
theorem dX12_readsNumber_6 : decode cX12_readsNumber 6 = .ok (.iconst 0, 1) := by decide +kernel
theorem dX12_readsNumber_7 : decode cX12_readsNumber 7 = .ok (.putfield 175, 3) := by decide +kernel
theorem dX12_readsNumber_10 : decode cX12_readsNumber 10 = .ok (.aload_n 0, 1) := by decide +kernel
theorem dX12_readsNumber_11 : decode cX12_readsNumber 11 = .ok (.invokevirtual 178, 3) := by decide +kernel
theorem dX12_readsNumber_14 : decode cX12_readsNumber 14 = .ok (.ifCond .eq 55, 3) := by decide +kernel
theorem dX12_readsNumber_17 : decode cX12_readsNumber 17 = .ok (.aload_n 0, 1) := by decide +kernel
theorem dX12_readsNumber_18 : decode cX12_readsNumber 18 = .ok (.getfield 159, 3) := by decide +kernel
theorem dX12_readsNumber_21 : decode cX12_readsNumber 21 = .ok (.iload_n 1, 1) := by decide +kernel
theorem dX12_readsNumber_22 : decode cX12_readsNumber 22 = .ok (.iconst 5, 1) := by decide +kernel
theorem dX12_readsNumber_23 : decode cX12_readsNumber 23 = .ok (.iadd, 1) := by decide +kernel
theorem dX12_readsNumber_24 : decode cX12_readsNumber 24 = .ok (.if_icmp .ne 13, 3) := by decide +kernel
theorem dX12_readsNumber_27 : decode cX12_readsNumber 27 = .ok (.aload_n 0, 1) := by decide +kernel
theorem dX12_readsNumber_28 : decode cX12_readsNumber 28 = .ok (.iconst 2, 1) := by decide +kernel
theorem dX12_readsNumber_29 : decode cX12_readsNumber 29 = .ok (.aload_n 0, 1) := by decide +kernel
theorem dX12_readsNumber_30 : decode cX12_readsNumber 30 = .ok (.getfield 159, 3) := by decide +kernel
theorem dX12_readsNumber_33 : decode cX12_readsNumber 33 = .ok (.invokevirtual 172, 3) := by decide +kernel
theorem dX12_readsNumber_36 : decode cX12_readsNumber 36 = .ok (.ireturn, 1) := by decide +kernel
theorem dX12_readsNumber_37 : decode cX12_readsNumber 37 = .ok (.aload_n 0, 1) := by decide +kernel
theorem dX12_readsNumber_38 : decode cX12_readsNumber 38 = .ok (.bipush 10, 2) := by decide +kernel
theorem dX12_readsNumber_40 : decode cX12_readsNumber 40 = .ok (.aload_n 0, 1) := by decide +kernel
theorem dX12_readsNumber_41 : decode cX12_readsNumber 41 = .ok (.getfield 175, 3) := by decide +kernel
theorem dX12_readsNumber_44 : decode cX12_readsNumber 44 = .ok (.imul, 1) := by decide +kernel
theorem dX12_readsNumber_45 : decode cX12_readsNumber 45 = .ok (.aload_n 0, 1) := by decide +kernel
theorem dX12_readsNumber_46 : decode cX12_readsNumber 46 = .ok (.invokevirtual 165, 3) := by decide +kernel
theorem dX12_readsNumber_49 : decode cX12_readsNumber 49 = .ok (.iadd, 1) := by decide +kernel
theorem dX12_readsNumber_50 : decode cX12_readsNumber 50 = .ok (.bipush 48, 2) := by decide +kernel
theorem dX12_readsNumber_52 : decode cX12_readsNumber 52 = .ok (.isub, 1) := by decide +kernel
theorem dX12_readsNumber_53 : decode cX12_readsNumber 53 = .ok (.putfield 175, 3) := by decide +kernel
theorem dX12_readsNumber_56 : decode cX12_readsNumber 56 = .ok (.aload_n 0, 1) := by decide +kernel
theorem dX12_readsNumber_57 : decode cX12_readsNumber 57 = .ok (.aload_n 0, 1) := by decide +kernel
theorem dX12_readsNumber_58 : decode cX12_readsNumber 58 = .ok (.getfield 159, 3) := by decide +kernel
theorem dX12_readsNumber_61 : decode cX12_readsNumber 61 = .ok (.iconst 1, 1) := by decide +kernel
theorem dX12_readsNumber_62 : decode cX12_readsNumber 62 = .ok (.iadd, 1) := by decide +kernel
theorem dX12_readsNumber_63 : decode cX12_readsNumber 63 = .ok (.putfield 159, 3) := by decide +kernel
theorem dX12_readsNumber_66 : decode cX12_readsNumber 66 = .ok (.goto (-56), 3) := by decide +kernel
theorem dX12_readsNumber_69 : decode cX12_readsNumber 69 = .ok (.iconst 1, 1) := by decide +kernel
theorem dX12_readsNumber_70 : decode cX12_readsNumber 70 = .ok (.ireturn, 1) := by decide +kernel
theorem dX12_notes_0 : decode cX12_notes 0 = .ok (.aload_n 0, 1) := by decide +kernel
theorem dX12_notes_1 : decode cX12_notes 1 = .ok (.getfield 41, 3) := by decide +kernel
theorem dX12_notes_4 : decode cX12_notes 4 = .ok (.aload_n 0, 1) := by decide +kernel
theorem dX12_notes_5 : decode cX12_notes 5 = .ok (.getfield 182, 3) := by decide +kernel
theorem dX12_notes_8 : decode cX12_notes 8 = .ok (.ldc 185, 2) := by decide +kernel
theorem dX12_notes_10 : decode cX12_notes 10 = .ok (.iload_n 1, 1) := by decide +kernel
theorem dX12_notes_11 : decode cX12_notes 11 = .ok (.imul, 1) := by decide +kernel
theorem dX12_notes_12 : decode cX12_notes 12 = .ok (.iload_n 2, 1) := by decide +kernel
theorem dX12_notes_13 : decode cX12_notes 13 = .ok (.iadd, 1) := by decide +kernel
theorem dX12_notes_14 : decode cX12_notes 14 = .ok (.iastore, 1) := by decide +kernel
theorem dX12_notes_15 : decode cX12_notes 15 = .ok (.aload_n 0, 1) := by decide +kernel
theorem dX12_notes_16 : decode cX12_notes 16 = .ok (.aload_n 0, 1) := by decide +kernel
theorem dX12_notes_17 : decode cX12_notes 17 = .ok (.getfield 182, 3) := by decide +kernel
theorem dX12_notes_20 : decode cX12_notes 20 = .ok (.iconst 1, 1) := by decide +kernel
theorem dX12_notes_21 : decode cX12_notes 21 = .ok (.iadd, 1) := by decide +kernel
theorem dX12_notes_22 : decode cX12_notes 22 = .ok (.putfield 182, 3) := by decide +kernel
theorem dX12_notes_25 : decode cX12_notes 25 = .ok (.return_, 1) := by decide +kernel
theorem dX12_opens_0 : decode cX12_opens 0 = .ok (.aload_n 0, 1) := by decide +kernel
theorem dX12_opens_1 : decode cX12_opens 1 = .ok (.getfield 186, 3) := by decide +kernel
theorem dX12_opens_4 : decode cX12_opens 4 = .ok (.bipush 6, 2) := by decide +kernel
theorem dX12_opens_6 : decode cX12_opens 6 = .ok (.if_icmp .ne 13, 3) := by decide +kernel
theorem dX12_opens_9 : decode cX12_opens 9 = .ok (.aload_n 0, 1) := by decide +kernel
theorem dX12_opens_10 : decode cX12_opens 10 = .ok (.iconst 5, 1) := by decide +kernel
theorem dX12_opens_11 : decode cX12_opens 11 = .ok (.aload_n 0, 1) := by decide +kernel
theorem dX12_opens_12 : decode cX12_opens 12 = .ok (.getfield 159, 3) := by decide +kernel
theorem dX12_opens_15 : decode cX12_opens 15 = .ok (.invokevirtual 172, 3) := by decide +kernel
theorem dX12_opens_18 : decode cX12_opens 18 = .ok (.ireturn, 1) := by decide +kernel
theorem dX12_opens_19 : decode cX12_opens 19 = .ok (.aload_n 0, 1) := by decide +kernel
theorem dX12_opens_20 : decode cX12_opens 20 = .ok (.aload_n 0, 1) := by decide +kernel
theorem dX12_opens_21 : decode cX12_opens 21 = .ok (.getfield 186, 3) := by decide +kernel
theorem dX12_opens_24 : decode cX12_opens 24 = .ok (.iconst 1, 1) := by decide +kernel
theorem dX12_opens_25 : decode cX12_opens 25 = .ok (.iadd, 1) := by decide +kernel
theorem dX12_opens_26 : decode cX12_opens 26 = .ok (.putfield 186, 3) := by decide +kernel
theorem dX12_opens_29 : decode cX12_opens 29 = .ok (.aload_n 0, 1) := by decide +kernel
theorem dX12_opens_30 : decode cX12_opens 30 = .ok (.getfield 44, 3) := by decide +kernel
theorem dX12_opens_33 : decode cX12_opens 33 = .ok (.aload_n 0, 1) := by decide +kernel
theorem dX12_opens_34 : decode cX12_opens 34 = .ok (.getfield 189, 3) := by decide +kernel
theorem dX12_opens_37 : decode cX12_opens 37 = .ok (.ldc 185, 2) := by decide +kernel
theorem dX12_opens_39 : decode cX12_opens 39 = .ok (.iload_n 1, 1) := by decide +kernel
theorem dX12_opens_40 : decode cX12_opens 40 = .ok (.imul, 1) := by decide +kernel
theorem dX12_opens_41 : decode cX12_opens 41 = .ok (.iastore, 1) := by decide +kernel
theorem dX12_opens_42 : decode cX12_opens 42 = .ok (.aload_n 0, 1) := by decide +kernel
theorem dX12_opens_43 : decode cX12_opens 43 = .ok (.aload_n 0, 1) := by decide +kernel
theorem dX12_opens_44 : decode cX12_opens 44 = .ok (.getfield 189, 3) := by decide +kernel
theorem dX12_opens_47 : decode cX12_opens 47 = .ok (.iconst 1, 1) := by decide +kernel
theorem dX12_opens_48 : decode cX12_opens 48 = .ok (.iadd, 1) := by decide +kernel
theorem dX12_opens_49 : decode cX12_opens 49 = .ok (.putfield 189, 3) := by decide +kernel
theorem dX12_opens_52 : decode cX12_opens 52 = .ok (.aload_n 0, 1) := by decide +kernel
theorem dX12_opens_53 : decode cX12_opens 53 = .ok (.aload_n 0, 1) := by decide +kernel
theorem dX12_opens_54 : decode cX12_opens 54 = .ok (.getfield 159, 3) := by decide +kernel
theorem dX12_opens_57 : decode cX12_opens 57 = .ok (.iconst 1, 1) := by decide +kernel
theorem dX12_opens_58 : decode cX12_opens 58 = .ok (.iadd, 1) := by decide +kernel
theorem dX12_opens_59 : decode cX12_opens 59 = .ok (.putfield 159, 3) := by decide +kernel
theorem dX12_opens_62 : decode cX12_opens 62 = .ok (.iconst 1, 1) := by decide +kernel
theorem dX12_opens_63 : decode cX12_opens 63 = .ok (.ireturn, 1) := by decide +kernel
theorem dX12_waitTop_0 : decode cX12_waitTop 0 = .ok (.aload_n 0, 1) := by decide +kernel
theorem dX12_waitTop_1 : decode cX12_waitTop 1 = .ok (.getfield 189, 3) := by decide +kernel
theorem dX12_waitTop_4 : decode cX12_waitTop 4 = .ok (.ifCond .ne 7, 3) := by decide +kernel
theorem dX12_waitTop_7 : decode cX12_waitTop 7 = .ok (.iconst (-1), 1) := by decide +kernel
theorem dX12_waitTop_8 : decode cX12_waitTop 8 = .ok (.goto 17, 3) := by decide +kernel
theorem dX12_waitTop_11 : decode cX12_waitTop 11 = .ok (.aload_n 0, 1) := by decide +kernel
theorem dX12_waitTop_12 : decode cX12_waitTop 12 = .ok (.getfield 44, 3) := by decide +kernel
theorem dX12_waitTop_15 : decode cX12_waitTop 15 = .ok (.aload_n 0, 1) := by decide +kernel
theorem dX12_waitTop_16 : decode cX12_waitTop 16 = .ok (.getfield 189, 3) := by decide +kernel
theorem dX12_waitTop_19 : decode cX12_waitTop 19 = .ok (.iconst 1, 1) := by decide +kernel
theorem dX12_waitTop_20 : decode cX12_waitTop 20 = .ok (.isub, 1) := by decide +kernel
theorem dX12_waitTop_21 : decode cX12_waitTop 21 = .ok (.iaload, 1) := by decide +kernel
theorem dX12_waitTop_22 : decode cX12_waitTop 22 = .ok (.ldc 185, 2) := by decide +kernel
theorem dX12_waitTop_24 : decode cX12_waitTop 24 = .ok (.idiv, 1) := by decide +kernel
theorem dX12_waitTop_25 : decode cX12_waitTop 25 = .ok (.ireturn, 1) := by decide +kernel
theorem dX12_factOf_0 : decode cX12_factOf 0 = .ok (.iload_n 0, 1) := by decide +kernel
theorem dX12_factOf_1 : decode cX12_factOf 1 = .ok (.tableswitch 119 100 119 #[97, 119, 99, 103, 119, 119, 119, 95, 119, 105, 107, 110, 119, 119, 119, 119, 113, 119, 101, 116], 95) := by decide +kernel
theorem dX12_factOf_96 : decode cX12_factOf 96 = .ok (.iconst 0, 1) := by decide +kernel
theorem dX12_factOf_97 : decode cX12_factOf 97 = .ok (.ireturn, 1) := by decide +kernel
theorem dX12_factOf_98 : decode cX12_factOf 98 = .ok (.iconst 1, 1) := by decide +kernel
theorem dX12_factOf_99 : decode cX12_factOf 99 = .ok (.ireturn, 1) := by decide +kernel
theorem dX12_factOf_100 : decode cX12_factOf 100 = .ok (.iconst 2, 1) := by decide +kernel
theorem dX12_factOf_101 : decode cX12_factOf 101 = .ok (.ireturn, 1) := by decide +kernel
theorem dX12_factOf_102 : decode cX12_factOf 102 = .ok (.iconst 3, 1) := by decide +kernel
theorem dX12_factOf_103 : decode cX12_factOf 103 = .ok (.ireturn, 1) := by decide +kernel
theorem dX12_factOf_104 : decode cX12_factOf 104 = .ok (.iconst 4, 1) := by decide +kernel
theorem dX12_factOf_105 : decode cX12_factOf 105 = .ok (.ireturn, 1) := by decide +kernel
theorem dX12_factOf_106 : decode cX12_factOf 106 = .ok (.iconst 5, 1) := by decide +kernel
theorem dX12_factOf_107 : decode cX12_factOf 107 = .ok (.ireturn, 1) := by decide +kernel
theorem dX12_factOf_108 : decode cX12_factOf 108 = .ok (.bipush 6, 2) := by decide +kernel
theorem dX12_factOf_110 : decode cX12_factOf 110 = .ok (.ireturn, 1) := by decide +kernel
theorem dX12_factOf_111 : decode cX12_factOf 111 = .ok (.bipush 7, 2) := by decide +kernel
theorem dX12_factOf_113 : decode cX12_factOf 113 = .ok (.ireturn, 1) := by decide +kernel
theorem dX12_factOf_114 : decode cX12_factOf 114 = .ok (.bipush 8, 2) := by decide +kernel
theorem dX12_factOf_116 : decode cX12_factOf 116 = .ok (.ireturn, 1) := by decide +kernel
theorem dX12_factOf_117 : decode cX12_factOf 117 = .ok (.bipush 9, 2) := by decide +kernel
theorem dX12_factOf_119 : decode cX12_factOf 119 = .ok (.ireturn, 1) := by decide +kernel
theorem dX12_factOf_120 : decode cX12_factOf 120 = .ok (.iconst (-1), 1) := by decide +kernel
theorem dX12_factOf_121 : decode cX12_factOf 121 = .ok (.ireturn, 1) := by decide +kernel
theorem dX12_sumSign_0 : decode cX12_sumSign 0 = .ok (.iload_n 0, 1) := by decide +kernel
theorem dX12_sumSign_1 : decode cX12_sumSign 1 = .ok (.bipush 43, 2) := by decide +kernel
theorem dX12_sumSign_3 : decode cX12_sumSign 3 = .ok (.if_icmp .ne 7, 3) := by decide +kernel
theorem dX12_sumSign_6 : decode cX12_sumSign 6 = .ok (.iconst 2, 1) := by decide +kernel
theorem dX12_sumSign_7 : decode cX12_sumSign 7 = .ok (.goto 45, 3) := by decide +kernel
theorem dX12_sumSign_10 : decode cX12_sumSign 10 = .ok (.iload_n 0, 1) := by decide +kernel
theorem dX12_sumSign_11 : decode cX12_sumSign 11 = .ok (.bipush 45, 2) := by decide +kernel
theorem dX12_sumSign_13 : decode cX12_sumSign 13 = .ok (.if_icmp .ne 7, 3) := by decide +kernel
theorem dX12_sumSign_16 : decode cX12_sumSign 16 = .ok (.iconst 3, 1) := by decide +kernel
theorem dX12_sumSign_17 : decode cX12_sumSign 17 = .ok (.goto 35, 3) := by decide +kernel
theorem dX12_sumSign_20 : decode cX12_sumSign 20 = .ok (.iload_n 0, 1) := by decide +kernel
theorem dX12_sumSign_21 : decode cX12_sumSign 21 = .ok (.bipush 42, 2) := by decide +kernel
theorem dX12_sumSign_23 : decode cX12_sumSign 23 = .ok (.if_icmp .ne 7, 3) := by decide +kernel
theorem dX12_sumSign_26 : decode cX12_sumSign 26 = .ok (.iconst 4, 1) := by decide +kernel
theorem dX12_sumSign_27 : decode cX12_sumSign 27 = .ok (.goto 25, 3) := by decide +kernel
theorem dX12_sumSign_30 : decode cX12_sumSign 30 = .ok (.iload_n 0, 1) := by decide +kernel
theorem dX12_sumSign_31 : decode cX12_sumSign 31 = .ok (.bipush 47, 2) := by decide +kernel
theorem dX12_sumSign_33 : decode cX12_sumSign 33 = .ok (.if_icmp .ne 7, 3) := by decide +kernel
theorem dX12_sumSign_36 : decode cX12_sumSign 36 = .ok (.iconst 5, 1) := by decide +kernel
theorem dX12_sumSign_37 : decode cX12_sumSign 37 = .ok (.goto 15, 3) := by decide +kernel
theorem dX12_sumSign_40 : decode cX12_sumSign 40 = .ok (.iload_n 0, 1) := by decide +kernel
theorem dX12_sumSign_41 : decode cX12_sumSign 41 = .ok (.bipush 37, 2) := by decide +kernel
theorem dX12_sumSign_43 : decode cX12_sumSign 43 = .ok (.if_icmp .ne 8, 3) := by decide +kernel
theorem dX12_sumSign_46 : decode cX12_sumSign 46 = .ok (.bipush 6, 2) := by decide +kernel
theorem dX12_sumSign_48 : decode cX12_sumSign 48 = .ok (.goto 4, 3) := by decide +kernel
theorem dX12_sumSign_51 : decode cX12_sumSign 51 = .ok (.iconst (-1), 1) := by decide +kernel
theorem dX12_sumSign_52 : decode cX12_sumSign 52 = .ok (.ireturn, 1) := by decide +kernel
theorem dX12_closesSums_0 : decode cX12_closesSums 0 = .ok (.aload_n 0, 1) := by decide +kernel
theorem dX12_closesSums_1 : decode cX12_closesSums 1 = .ok (.invokevirtual 192, 3) := by decide +kernel
theorem dX12_closesSums_4 : decode cX12_closesSums 4 = .ok (.iconst 4, 1) := by decide +kernel
theorem dX12_closesSums_5 : decode cX12_closesSums 5 = .ok (.if_icmp .lt 12, 3) := by decide +kernel
theorem dX12_closesSums_8 : decode cX12_closesSums 8 = .ok (.aload_n 0, 1) := by decide +kernel
theorem dX12_closesSums_9 : decode cX12_closesSums 9 = .ok (.invokevirtual 192, 3) := by decide +kernel
theorem dX12_closesSums_12 : decode cX12_closesSums 12 = .ok (.bipush 6, 2) := by decide +kernel
theorem dX12_closesSums_14 : decode cX12_closesSums 14 = .ok (.if_icmp .le 23, 3) := by decide +kernel
theorem dX12_closesSums_17 : decode cX12_closesSums 17 = .ok (.iload_n 1, 1) := by decide +kernel
theorem dX12_closesSums_18 : decode cX12_closesSums 18 = .ok (.ifCond .eq 41, 3) := by decide +kernel
theorem dX12_closesSums_21 : decode cX12_closesSums 21 = .ok (.aload_n 0, 1) := by decide +kernel
theorem dX12_closesSums_22 : decode cX12_closesSums 22 = .ok (.invokevirtual 192, 3) := by decide +kernel
theorem dX12_closesSums_25 : decode cX12_closesSums 25 = .ok (.iconst 2, 1) := by decide +kernel
theorem dX12_closesSums_26 : decode cX12_closesSums 26 = .ok (.if_icmp .eq 11, 3) := by decide +kernel
theorem dX12_closesSums_29 : decode cX12_closesSums 29 = .ok (.aload_n 0, 1) := by decide +kernel
theorem dX12_closesSums_30 : decode cX12_closesSums 30 = .ok (.invokevirtual 192, 3) := by decide +kernel
theorem dX12_closesSums_33 : decode cX12_closesSums 33 = .ok (.iconst 3, 1) := by decide +kernel
theorem dX12_closesSums_34 : decode cX12_closesSums 34 = .ok (.if_icmp .ne 25, 3) := by decide +kernel
theorem dX12_closesSums_37 : decode cX12_closesSums 37 = .ok (.aload_n 0, 1) := by decide +kernel
theorem dX12_closesSums_38 : decode cX12_closesSums 38 = .ok (.aload_n 0, 1) := by decide +kernel
theorem dX12_closesSums_39 : decode cX12_closesSums 39 = .ok (.invokevirtual 192, 3) := by decide +kernel
theorem dX12_closesSums_42 : decode cX12_closesSums 42 = .ok (.iconst 0, 1) := by decide +kernel
theorem dX12_closesSums_43 : decode cX12_closesSums 43 = .ok (.invokevirtual 195, 3) := by decide +kernel
theorem dX12_closesSums_46 : decode cX12_closesSums 46 = .ok (.aload_n 0, 1) := by decide +kernel
theorem dX12_closesSums_47 : decode cX12_closesSums 47 = .ok (.aload_n 0, 1) := by decide +kernel
theorem dX12_closesSums_48 : decode cX12_closesSums 48 = .ok (.getfield 189, 3) := by decide +kernel
theorem dX12_closesSums_51 : decode cX12_closesSums 51 = .ok (.iconst 1, 1) := by decide +kernel
theorem dX12_closesSums_52 : decode cX12_closesSums 52 = .ok (.isub, 1) := by decide +kernel
theorem dX12_closesSums_53 : decode cX12_closesSums 53 = .ok (.putfield 189, 3) := by decide +kernel
theorem dX12_closesSums_56 : decode cX12_closesSums 56 = .ok (.goto (-56), 3) := by decide +kernel
theorem dX12_closesSums_59 : decode cX12_closesSums 59 = .ok (.return_, 1) := by decide +kernel
theorem dX12_readsFactor_0 : decode cX12_readsFactor 0 = .ok (.aload_n 0, 1) := by decide +kernel
theorem dX12_readsFactor_1 : decode cX12_readsFactor 1 = .ok (.invokevirtual 165, 3) := by decide +kernel
theorem dX12_readsFactor_4 : decode cX12_readsFactor 4 = .ok (.bipush 91, 2) := by decide +kernel
theorem dX12_readsFactor_6 : decode cX12_readsFactor 6 = .ok (.if_icmp .ne 14, 3) := by decide +kernel
theorem dX12_readsFactor_9 : decode cX12_readsFactor 9 = .ok (.aload_n 0, 1) := by decide +kernel
theorem dX12_readsFactor_10 : decode cX12_readsFactor 10 = .ok (.bipush 14, 2) := by decide +kernel
theorem dX12_readsFactor_12 : decode cX12_readsFactor 12 = .ok (.invokevirtual 199, 3) := by decide +kernel
theorem dX12_readsFactor_15 : decode cX12_readsFactor 15 = .ok (.ifCond .ne (-15), 3) := by decide +kernel
theorem dX12_readsFactor_18 : decode cX12_readsFactor 18 = .ok (.iconst 0, 1) := by decide +kernel
theorem dX12_readsFactor_19 : decode cX12_readsFactor 19 = .ok (.ireturn, 1) := by decide +kernel
theorem dX12_readsFactor_20 : decode cX12_readsFactor 20 = .ok (.aload_n 0, 1) := by decide +kernel
theorem dX12_readsFactor_21 : decode cX12_readsFactor 21 = .ok (.invokevirtual 178, 3) := by decide +kernel
theorem dX12_readsFactor_24 : decode cX12_readsFactor 24 = .ok (.ifCond .eq 23, 3) := by decide +kernel
theorem dX12_readsFactor_27 : decode cX12_readsFactor 27 = .ok (.aload_n 0, 1) := by decide +kernel
theorem dX12_readsFactor_28 : decode cX12_readsFactor 28 = .ok (.invokevirtual 202, 3) := by decide +kernel
theorem dX12_readsFactor_31 : decode cX12_readsFactor 31 = .ok (.ifCond .ne 5, 3) := by decide +kernel
theorem dX12_readsFactor_34 : decode cX12_readsFactor 34 = .ok (.iconst 0, 1) := by decide +kernel
theorem dX12_readsFactor_35 : decode cX12_readsFactor 35 = .ok (.ireturn, 1) := by decide +kernel
theorem dX12_readsFactor_36 : decode cX12_readsFactor 36 = .ok (.aload_n 0, 1) := by decide +kernel
theorem dX12_readsFactor_37 : decode cX12_readsFactor 37 = .ok (.iconst 0, 1) := by decide +kernel
theorem dX12_readsFactor_38 : decode cX12_readsFactor 38 = .ok (.aload_n 0, 1) := by decide +kernel
theorem dX12_readsFactor_39 : decode cX12_readsFactor 39 = .ok (.getfield 175, 3) := by decide +kernel
theorem dX12_readsFactor_42 : decode cX12_readsFactor 42 = .ok (.invokevirtual 195, 3) := by decide +kernel
theorem dX12_readsFactor_45 : decode cX12_readsFactor 45 = .ok (.iconst 1, 1) := by decide +kernel
theorem dX12_readsFactor_46 : decode cX12_readsFactor 46 = .ok (.ireturn, 1) := by decide +kernel
theorem dX12_readsFactor_47 : decode cX12_readsFactor 47 = .ok (.aload_n 0, 1) := by decide +kernel
theorem dX12_readsFactor_48 : decode cX12_readsFactor 48 = .ok (.invokevirtual 165, 3) := by decide +kernel
theorem dX12_readsFactor_51 : decode cX12_readsFactor 51 = .ok (.invokestatic 205, 3) := by decide +kernel
theorem dX12_readsFactor_54 : decode cX12_readsFactor 54 = .ok (.istore_n 1, 1) := by decide +kernel
theorem dX12_readsFactor_55 : decode cX12_readsFactor 55 = .ok (.iload_n 1, 1) := by decide +kernel
theorem dX12_readsFactor_56 : decode cX12_readsFactor 56 = .ok (.iconst (-1), 1) := by decide +kernel
theorem dX12_readsFactor_57 : decode cX12_readsFactor 57 = .ok (.if_icmp .ne 13, 3) := by decide +kernel
theorem dX12_readsFactor_60 : decode cX12_readsFactor 60 = .ok (.aload_n 0, 1) := by decide +kernel
theorem dX12_readsFactor_61 : decode cX12_readsFactor 61 = .ok (.iconst 1, 1) := by decide +kernel
theorem dX12_readsFactor_62 : decode cX12_readsFactor 62 = .ok (.aload_n 0, 1) := by decide +kernel
theorem dX12_readsFactor_63 : decode cX12_readsFactor 63 = .ok (.getfield 159, 3) := by decide +kernel
theorem dX12_readsFactor_66 : decode cX12_readsFactor 66 = .ok (.invokevirtual 172, 3) := by decide +kernel
theorem dX12_readsFactor_69 : decode cX12_readsFactor 69 = .ok (.ireturn, 1) := by decide +kernel
theorem dX12_readsFactor_70 : decode cX12_readsFactor 70 = .ok (.aload_n 0, 1) := by decide +kernel
theorem dX12_readsFactor_71 : decode cX12_readsFactor 71 = .ok (.iconst 1, 1) := by decide +kernel
theorem dX12_readsFactor_72 : decode cX12_readsFactor 72 = .ok (.iload_n 1, 1) := by decide +kernel
theorem dX12_readsFactor_73 : decode cX12_readsFactor 73 = .ok (.invokevirtual 195, 3) := by decide +kernel
theorem dX12_readsFactor_76 : decode cX12_readsFactor 76 = .ok (.aload_n 0, 1) := by decide +kernel
theorem dX12_readsFactor_77 : decode cX12_readsFactor 77 = .ok (.aload_n 0, 1) := by decide +kernel
theorem dX12_readsFactor_78 : decode cX12_readsFactor 78 = .ok (.getfield 159, 3) := by decide +kernel
theorem dX12_readsFactor_81 : decode cX12_readsFactor 81 = .ok (.iconst 1, 1) := by decide +kernel
theorem dX12_readsFactor_82 : decode cX12_readsFactor 82 = .ok (.iadd, 1) := by decide +kernel
theorem dX12_readsFactor_83 : decode cX12_readsFactor 83 = .ok (.putfield 159, 3) := by decide +kernel
theorem dX12_readsFactor_86 : decode cX12_readsFactor 86 = .ok (.iconst 1, 1) := by decide +kernel
theorem dX12_readsFactor_87 : decode cX12_readsFactor 87 = .ok (.ireturn, 1) := by decide +kernel
theorem dX12_hasOpenSum_0 : decode cX12_hasOpenSum 0 = .ok (.iload_n 1, 1) := by decide +kernel
theorem dX12_hasOpenSum_1 : decode cX12_hasOpenSum 1 = .ok (.istore_n 2, 1) := by decide +kernel
theorem dX12_hasOpenSum_2 : decode cX12_hasOpenSum 2 = .ok (.iload_n 2, 1) := by decide +kernel
theorem dX12_hasOpenSum_3 : decode cX12_hasOpenSum 3 = .ok (.aload_n 0, 1) := by decide +kernel
theorem dX12_hasOpenSum_4 : decode cX12_hasOpenSum 4 = .ok (.getfield 189, 3) := by decide +kernel
theorem dX12_hasOpenSum_7 : decode cX12_hasOpenSum 7 = .ok (.if_icmp .ge 25, 3) := by decide +kernel
theorem dX12_hasOpenSum_10 : decode cX12_hasOpenSum 10 = .ok (.aload_n 0, 1) := by decide +kernel
theorem dX12_hasOpenSum_11 : decode cX12_hasOpenSum 11 = .ok (.getfield 44, 3) := by decide +kernel
theorem dX12_hasOpenSum_14 : decode cX12_hasOpenSum 14 = .ok (.iload_n 2, 1) := by decide +kernel
theorem dX12_hasOpenSum_15 : decode cX12_hasOpenSum 15 = .ok (.iaload, 1) := by decide +kernel
theorem dX12_hasOpenSum_16 : decode cX12_hasOpenSum 16 = .ok (.ldc 185, 2) := by decide +kernel
theorem dX12_hasOpenSum_18 : decode cX12_hasOpenSum 18 = .ok (.idiv, 1) := by decide +kernel
theorem dX12_hasOpenSum_19 : decode cX12_hasOpenSum 19 = .ok (.bipush 14, 2) := by decide +kernel
theorem dX12_hasOpenSum_21 : decode cX12_hasOpenSum 21 = .ok (.if_icmp .ne 5, 3) := by decide +kernel
theorem dX12_hasOpenSum_24 : decode cX12_hasOpenSum 24 = .ok (.iconst 1, 1) := by decide +kernel
theorem dX12_hasOpenSum_25 : decode cX12_hasOpenSum 25 = .ok (.ireturn, 1) := by decide +kernel
theorem dX12_hasOpenSum_26 : decode cX12_hasOpenSum 26 = .ok (.iinc 2 1, 3) := by decide +kernel
theorem dX12_hasOpenSum_29 : decode cX12_hasOpenSum 29 = .ok (.goto (-27), 3) := by decide +kernel
theorem dX12_hasOpenSum_32 : decode cX12_hasOpenSum 32 = .ok (.iconst 0, 1) := by decide +kernel
theorem dX12_hasOpenSum_33 : decode cX12_hasOpenSum 33 = .ok (.ireturn, 1) := by decide +kernel
theorem dX12_readsSum_0 : decode cX12_readsSum 0 = .ok (.aload_n 0, 1) := by decide +kernel
theorem dX12_readsSum_1 : decode cX12_readsSum 1 = .ok (.getfield 189, 3) := by decide +kernel
theorem dX12_readsSum_4 : decode cX12_readsSum 4 = .ok (.istore_n 1, 1) := by decide +kernel
theorem dX12_readsSum_5 : decode cX12_readsSum 5 = .ok (.aload_n 0, 1) := by decide +kernel
theorem dX12_readsSum_6 : decode cX12_readsSum 6 = .ok (.invokevirtual 208, 3) := by decide +kernel
theorem dX12_readsSum_9 : decode cX12_readsSum 9 = .ok (.ifCond .ne 5, 3) := by decide +kernel
theorem dX12_readsSum_12 : decode cX12_readsSum 12 = .ok (.iconst 0, 1) := by decide +kernel
theorem dX12_readsSum_13 : decode cX12_readsSum 13 = .ok (.ireturn, 1) := by decide +kernel
theorem dX12_readsSum_14 : decode cX12_readsSum 14 = .ok (.aload_n 0, 1) := by decide +kernel
theorem dX12_readsSum_15 : decode cX12_readsSum 15 = .ok (.invokevirtual 165, 3) := by decide +kernel
theorem dX12_readsSum_18 : decode cX12_readsSum 18 = .ok (.invokestatic 211, 3) := by decide +kernel
theorem dX12_readsSum_21 : decode cX12_readsSum 21 = .ok (.istore_n 2, 1) := by decide +kernel
theorem dX12_readsSum_22 : decode cX12_readsSum 22 = .ok (.iload_n 2, 1) := by decide +kernel
theorem dX12_readsSum_23 : decode cX12_readsSum 23 = .ok (.iconst (-1), 1) := by decide +kernel
theorem dX12_readsSum_24 : decode cX12_readsSum 24 = .ok (.if_icmp .eq 59, 3) := by decide +kernel
theorem dX12_readsSum_27 : decode cX12_readsSum 27 = .ok (.aload_n 0, 1) := by decide +kernel
theorem dX12_readsSum_28 : decode cX12_readsSum 28 = .ok (.iload_n 2, 1) := by decide +kernel
theorem dX12_readsSum_29 : decode cX12_readsSum 29 = .ok (.iconst 4, 1) := by decide +kernel
theorem dX12_readsSum_30 : decode cX12_readsSum 30 = .ok (.if_icmp .ge 7, 3) := by decide +kernel
theorem dX12_readsSum_33 : decode cX12_readsSum 33 = .ok (.iconst 1, 1) := by decide +kernel
theorem dX12_readsSum_34 : decode cX12_readsSum 34 = .ok (.goto 4, 3) := by decide +kernel
theorem dX12_readsSum_37 : decode cX12_readsSum 37 = .ok (.iconst 0, 1) := by decide +kernel
theorem dX12_readsSum_38 : decode cX12_readsSum 38 = .ok (.invokevirtual 214, 3) := by decide +kernel
theorem dX12_readsSum_41 : decode cX12_readsSum 41 = .ok (.aload_n 0, 1) := by decide +kernel
theorem dX12_readsSum_42 : decode cX12_readsSum 42 = .ok (.getfield 44, 3) := by decide +kernel
theorem dX12_readsSum_45 : decode cX12_readsSum 45 = .ok (.aload_n 0, 1) := by decide +kernel
theorem dX12_readsSum_46 : decode cX12_readsSum 46 = .ok (.getfield 189, 3) := by decide +kernel
theorem dX12_readsSum_49 : decode cX12_readsSum 49 = .ok (.ldc 185, 2) := by decide +kernel
theorem dX12_readsSum_51 : decode cX12_readsSum 51 = .ok (.iload_n 2, 1) := by decide +kernel
theorem dX12_readsSum_52 : decode cX12_readsSum 52 = .ok (.imul, 1) := by decide +kernel
theorem dX12_readsSum_53 : decode cX12_readsSum 53 = .ok (.iastore, 1) := by decide +kernel
theorem dX12_readsSum_54 : decode cX12_readsSum 54 = .ok (.aload_n 0, 1) := by decide +kernel
theorem dX12_readsSum_55 : decode cX12_readsSum 55 = .ok (.aload_n 0, 1) := by decide +kernel
theorem dX12_readsSum_56 : decode cX12_readsSum 56 = .ok (.getfield 189, 3) := by decide +kernel
theorem dX12_readsSum_59 : decode cX12_readsSum 59 = .ok (.iconst 1, 1) := by decide +kernel
theorem dX12_readsSum_60 : decode cX12_readsSum 60 = .ok (.iadd, 1) := by decide +kernel
theorem dX12_readsSum_61 : decode cX12_readsSum 61 = .ok (.putfield 189, 3) := by decide +kernel
theorem dX12_readsSum_64 : decode cX12_readsSum 64 = .ok (.aload_n 0, 1) := by decide +kernel
theorem dX12_readsSum_65 : decode cX12_readsSum 65 = .ok (.aload_n 0, 1) := by decide +kernel
theorem dX12_readsSum_66 : decode cX12_readsSum 66 = .ok (.getfield 159, 3) := by decide +kernel
theorem dX12_readsSum_69 : decode cX12_readsSum 69 = .ok (.iconst 1, 1) := by decide +kernel
theorem dX12_readsSum_70 : decode cX12_readsSum 70 = .ok (.iadd, 1) := by decide +kernel
theorem dX12_readsSum_71 : decode cX12_readsSum 71 = .ok (.putfield 159, 3) := by decide +kernel
theorem dX12_readsSum_74 : decode cX12_readsSum 74 = .ok (.aload_n 0, 1) := by decide +kernel
theorem dX12_readsSum_75 : decode cX12_readsSum 75 = .ok (.invokevirtual 208, 3) := by decide +kernel
theorem dX12_readsSum_78 : decode cX12_readsSum 78 = .ok (.ifCond .ne 85, 3) := by decide +kernel
theorem dX12_readsSum_81 : decode cX12_readsSum 81 = .ok (.iconst 0, 1) := by decide +kernel
theorem dX12_readsSum_82 : decode cX12_readsSum 82 = .ok (.ireturn, 1) := by decide +kernel
theorem dX12_readsSum_83 : decode cX12_readsSum 83 = .ok (.aload_n 0, 1) := by decide +kernel
theorem dX12_readsSum_84 : decode cX12_readsSum 84 = .ok (.invokevirtual 165, 3) := by decide +kernel
theorem dX12_readsSum_87 : decode cX12_readsSum 87 = .ok (.bipush 93, 2) := by decide +kernel
theorem dX12_readsSum_89 : decode cX12_readsSum 89 = .ok (.if_icmp .ne 49, 3) := by decide +kernel
theorem dX12_readsSum_92 : decode cX12_readsSum 92 = .ok (.aload_n 0, 1) := by decide +kernel
theorem dX12_readsSum_93 : decode cX12_readsSum 93 = .ok (.iload_n 1, 1) := by decide +kernel
theorem dX12_readsSum_94 : decode cX12_readsSum 94 = .ok (.invokevirtual 218, 3) := by decide +kernel
theorem dX12_readsSum_97 : decode cX12_readsSum 97 = .ok (.ifCond .eq 41, 3) := by decide +kernel
theorem dX12_readsSum_100 : decode cX12_readsSum 100 = .ok (.aload_n 0, 1) := by decide +kernel
theorem dX12_readsSum_101 : decode cX12_readsSum 101 = .ok (.iconst 1, 1) := by decide +kernel
theorem dX12_readsSum_102 : decode cX12_readsSum 102 = .ok (.invokevirtual 214, 3) := by decide +kernel
theorem dX12_readsSum_105 : decode cX12_readsSum 105 = .ok (.aload_n 0, 1) := by decide +kernel
theorem dX12_readsSum_106 : decode cX12_readsSum 106 = .ok (.aload_n 0, 1) := by decide +kernel
theorem dX12_readsSum_107 : decode cX12_readsSum 107 = .ok (.getfield 189, 3) := by decide +kernel
theorem dX12_readsSum_110 : decode cX12_readsSum 110 = .ok (.iconst 1, 1) := by decide +kernel
theorem dX12_readsSum_111 : decode cX12_readsSum 111 = .ok (.isub, 1) := by decide +kernel
theorem dX12_readsSum_112 : decode cX12_readsSum 112 = .ok (.putfield 189, 3) := by decide +kernel
theorem dX12_readsSum_115 : decode cX12_readsSum 115 = .ok (.aload_n 0, 1) := by decide +kernel
theorem dX12_readsSum_116 : decode cX12_readsSum 116 = .ok (.aload_n 0, 1) := by decide +kernel
theorem dX12_readsSum_117 : decode cX12_readsSum 117 = .ok (.getfield 186, 3) := by decide +kernel
theorem dX12_readsSum_120 : decode cX12_readsSum 120 = .ok (.iconst 1, 1) := by decide +kernel
theorem dX12_readsSum_121 : decode cX12_readsSum 121 = .ok (.isub, 1) := by decide +kernel
theorem dX12_readsSum_122 : decode cX12_readsSum 122 = .ok (.putfield 186, 3) := by decide +kernel
theorem dX12_readsSum_125 : decode cX12_readsSum 125 = .ok (.aload_n 0, 1) := by decide +kernel
theorem dX12_readsSum_126 : decode cX12_readsSum 126 = .ok (.aload_n 0, 1) := by decide +kernel
theorem dX12_readsSum_127 : decode cX12_readsSum 127 = .ok (.getfield 159, 3) := by decide +kernel
theorem dX12_readsSum_130 : decode cX12_readsSum 130 = .ok (.iconst 1, 1) := by decide +kernel
theorem dX12_readsSum_131 : decode cX12_readsSum 131 = .ok (.iadd, 1) := by decide +kernel
theorem dX12_readsSum_132 : decode cX12_readsSum 132 = .ok (.putfield 159, 3) := by decide +kernel
theorem dX12_readsSum_135 : decode cX12_readsSum 135 = .ok (.goto 28, 3) := by decide +kernel
theorem dX12_readsSum_138 : decode cX12_readsSum 138 = .ok (.aload_n 0, 1) := by decide +kernel
theorem dX12_readsSum_139 : decode cX12_readsSum 139 = .ok (.iload_n 1, 1) := by decide +kernel
theorem dX12_readsSum_140 : decode cX12_readsSum 140 = .ok (.invokevirtual 218, 3) := by decide +kernel
theorem dX12_readsSum_143 : decode cX12_readsSum 143 = .ok (.ifCond .eq 13, 3) := by decide +kernel
theorem dX12_readsSum_146 : decode cX12_readsSum 146 = .ok (.aload_n 0, 1) := by decide +kernel
theorem dX12_readsSum_147 : decode cX12_readsSum 147 = .ok (.iconst 1, 1) := by decide +kernel
theorem dX12_readsSum_148 : decode cX12_readsSum 148 = .ok (.aload_n 0, 1) := by decide +kernel
theorem dX12_readsSum_149 : decode cX12_readsSum 149 = .ok (.getfield 159, 3) := by decide +kernel
theorem dX12_readsSum_152 : decode cX12_readsSum 152 = .ok (.invokevirtual 172, 3) := by decide +kernel
theorem dX12_readsSum_155 : decode cX12_readsSum 155 = .ok (.ireturn, 1) := by decide +kernel
theorem dX12_readsSum_156 : decode cX12_readsSum 156 = .ok (.aload_n 0, 1) := by decide +kernel
theorem dX12_readsSum_157 : decode cX12_readsSum 157 = .ok (.iconst 1, 1) := by decide +kernel
theorem dX12_readsSum_158 : decode cX12_readsSum 158 = .ok (.invokevirtual 214, 3) := by decide +kernel
theorem dX12_readsSum_161 : decode cX12_readsSum 161 = .ok (.iconst 1, 1) := by decide +kernel
theorem dX12_readsSum_162 : decode cX12_readsSum 162 = .ok (.ireturn, 1) := by decide +kernel
theorem dX12_readsSum_163 : decode cX12_readsSum 163 = .ok (.goto (-149), 3) := by decide +kernel
theorem dX12_endsPiece_0 : decode cX12_endsPiece 0 = .ok (.aload_n 0, 1) := by decide +kernel
theorem dX12_endsPiece_1 : decode cX12_endsPiece 1 = .ok (.invokevirtual 192, 3) := by decide +kernel
theorem dX12_endsPiece_4 : decode cX12_endsPiece 4 = .ok (.bipush 10, 2) := by decide +kernel
theorem dX12_endsPiece_6 : decode cX12_endsPiece 6 = .ok (.if_icmp .ne 33, 3) := by decide +kernel
theorem dX12_endsPiece_9 : decode cX12_endsPiece 9 = .ok (.aload_n 0, 1) := by decide +kernel
theorem dX12_endsPiece_10 : decode cX12_endsPiece 10 = .ok (.bipush 10, 2) := by decide +kernel
theorem dX12_endsPiece_12 : decode cX12_endsPiece 12 = .ok (.iconst 0, 1) := by decide +kernel
theorem dX12_endsPiece_13 : decode cX12_endsPiece 13 = .ok (.invokevirtual 195, 3) := by decide +kernel
theorem dX12_endsPiece_16 : decode cX12_endsPiece 16 = .ok (.aload_n 0, 1) := by decide +kernel
theorem dX12_endsPiece_17 : decode cX12_endsPiece 17 = .ok (.aload_n 0, 1) := by decide +kernel
theorem dX12_endsPiece_18 : decode cX12_endsPiece 18 = .ok (.getfield 189, 3) := by decide +kernel
theorem dX12_endsPiece_21 : decode cX12_endsPiece 21 = .ok (.iconst 1, 1) := by decide +kernel
theorem dX12_endsPiece_22 : decode cX12_endsPiece 22 = .ok (.isub, 1) := by decide +kernel
theorem dX12_endsPiece_23 : decode cX12_endsPiece 23 = .ok (.putfield 189, 3) := by decide +kernel
theorem dX12_endsPiece_26 : decode cX12_endsPiece 26 = .ok (.aload_n 0, 1) := by decide +kernel
theorem dX12_endsPiece_27 : decode cX12_endsPiece 27 = .ok (.aload_n 0, 1) := by decide +kernel
theorem dX12_endsPiece_28 : decode cX12_endsPiece 28 = .ok (.getfield 186, 3) := by decide +kernel
theorem dX12_endsPiece_31 : decode cX12_endsPiece 31 = .ok (.iconst 1, 1) := by decide +kernel
theorem dX12_endsPiece_32 : decode cX12_endsPiece 32 = .ok (.isub, 1) := by decide +kernel
theorem dX12_endsPiece_33 : decode cX12_endsPiece 33 = .ok (.putfield 186, 3) := by decide +kernel
theorem dX12_endsPiece_36 : decode cX12_endsPiece 36 = .ok (.goto (-36), 3) := by decide +kernel
theorem dX12_endsPiece_39 : decode cX12_endsPiece 39 = .ok (.return_, 1) := by decide +kernel
theorem dX12_lands_0 : decode cX12_lands 0 = .ok (.aload_n 0, 1) := by decide +kernel
theorem dX12_lands_1 : decode cX12_lands 1 = .ok (.invokevirtual 192, 3) := by decide +kernel
theorem dX12_lands_4 : decode cX12_lands 4 = .ok (.bipush 11, 2) := by decide +kernel
theorem dX12_lands_6 : decode cX12_lands 6 = .ok (.if_icmp .eq 16, 3) := by decide +kernel
theorem dX12_lands_9 : decode cX12_lands 9 = .ok (.iload_n 1, 1) := by decide +kernel
theorem dX12_lands_10 : decode cX12_lands 10 = .ok (.ifCond .eq 63, 3) := by decide +kernel
theorem dX12_lands_13 : decode cX12_lands 13 = .ok (.aload_n 0, 1) := by decide +kernel
theorem dX12_lands_14 : decode cX12_lands 14 = .ok (.invokevirtual 192, 3) := by decide +kernel
theorem dX12_lands_17 : decode cX12_lands 17 = .ok (.bipush 12, 2) := by decide +kernel
theorem dX12_lands_19 : decode cX12_lands 19 = .ok (.if_icmp .ne 54, 3) := by decide +kernel
theorem dX12_lands_22 : decode cX12_lands 22 = .ok (.aload_n 0, 1) := by decide +kernel
theorem dX12_lands_23 : decode cX12_lands 23 = .ok (.getfield 44, 3) := by decide +kernel
theorem dX12_lands_26 : decode cX12_lands 26 = .ok (.aload_n 0, 1) := by decide +kernel
theorem dX12_lands_27 : decode cX12_lands 27 = .ok (.getfield 189, 3) := by decide +kernel
theorem dX12_lands_30 : decode cX12_lands 30 = .ok (.iconst 1, 1) := by decide +kernel
theorem dX12_lands_31 : decode cX12_lands 31 = .ok (.isub, 1) := by decide +kernel
theorem dX12_lands_32 : decode cX12_lands 32 = .ok (.iaload, 1) := by decide +kernel
theorem dX12_lands_33 : decode cX12_lands 33 = .ok (.ldc 185, 2) := by decide +kernel
theorem dX12_lands_35 : decode cX12_lands 35 = .ok (.irem, 1) := by decide +kernel
theorem dX12_lands_36 : decode cX12_lands 36 = .ok (.istore_n 2, 1) := by decide +kernel
theorem dX12_lands_37 : decode cX12_lands 37 = .ok (.aload_n 0, 1) := by decide +kernel
theorem dX12_lands_38 : decode cX12_lands 38 = .ok (.getfield 41, 3) := by decide +kernel
theorem dX12_lands_41 : decode cX12_lands 41 = .ok (.iload_n 2, 1) := by decide +kernel
theorem dX12_lands_42 : decode cX12_lands 42 = .ok (.ldc 185, 2) := by decide +kernel
theorem dX12_lands_44 : decode cX12_lands 44 = .ok (.aload_n 0, 1) := by decide +kernel
theorem dX12_lands_45 : decode cX12_lands 45 = .ok (.getfield 41, 3) := by decide +kernel
theorem dX12_lands_48 : decode cX12_lands 48 = .ok (.iload_n 2, 1) := by decide +kernel
theorem dX12_lands_49 : decode cX12_lands 49 = .ok (.iaload, 1) := by decide +kernel
theorem dX12_lands_50 : decode cX12_lands 50 = .ok (.ldc 185, 2) := by decide +kernel
theorem dX12_lands_52 : decode cX12_lands 52 = .ok (.idiv, 1) := by decide +kernel
theorem dX12_lands_53 : decode cX12_lands 53 = .ok (.imul, 1) := by decide +kernel
theorem dX12_lands_54 : decode cX12_lands 54 = .ok (.aload_n 0, 1) := by decide +kernel
theorem dX12_lands_55 : decode cX12_lands 55 = .ok (.getfield 182, 3) := by decide +kernel
theorem dX12_lands_58 : decode cX12_lands 58 = .ok (.iadd, 1) := by decide +kernel
theorem dX12_lands_59 : decode cX12_lands 59 = .ok (.iastore, 1) := by decide +kernel
theorem dX12_lands_60 : decode cX12_lands 60 = .ok (.aload_n 0, 1) := by decide +kernel
theorem dX12_lands_61 : decode cX12_lands 61 = .ok (.aload_n 0, 1) := by decide +kernel
theorem dX12_lands_62 : decode cX12_lands 62 = .ok (.getfield 189, 3) := by decide +kernel
theorem dX12_lands_65 : decode cX12_lands 65 = .ok (.iconst 1, 1) := by decide +kernel
theorem dX12_lands_66 : decode cX12_lands 66 = .ok (.isub, 1) := by decide +kernel
theorem dX12_lands_67 : decode cX12_lands 67 = .ok (.putfield 189, 3) := by decide +kernel
theorem dX12_lands_70 : decode cX12_lands 70 = .ok (.goto (-70), 3) := by decide +kernel
theorem dX12_lands_73 : decode cX12_lands 73 = .ok (.return_, 1) := by decide +kernel
theorem dX12_jumps_0 : decode cX12_jumps 0 = .ok (.aload_n 0, 1) := by decide +kernel
theorem dX12_jumps_1 : decode cX12_jumps 1 = .ok (.getfield 44, 3) := by decide +kernel
theorem dX12_jumps_4 : decode cX12_jumps 4 = .ok (.aload_n 0, 1) := by decide +kernel
theorem dX12_jumps_5 : decode cX12_jumps 5 = .ok (.getfield 189, 3) := by decide +kernel
theorem dX12_jumps_8 : decode cX12_jumps 8 = .ok (.ldc 185, 2) := by decide +kernel
theorem dX12_jumps_10 : decode cX12_jumps 10 = .ok (.iload_n 1, 1) := by decide +kernel
theorem dX12_jumps_11 : decode cX12_jumps 11 = .ok (.imul, 1) := by decide +kernel
theorem dX12_jumps_12 : decode cX12_jumps 12 = .ok (.aload_n 0, 1) := by decide +kernel
theorem dX12_jumps_13 : decode cX12_jumps 13 = .ok (.getfield 182, 3) := by decide +kernel
theorem dX12_jumps_16 : decode cX12_jumps 16 = .ok (.iadd, 1) := by decide +kernel
theorem dX12_jumps_17 : decode cX12_jumps 17 = .ok (.iastore, 1) := by decide +kernel
theorem dX12_jumps_18 : decode cX12_jumps 18 = .ok (.aload_n 0, 1) := by decide +kernel
theorem dX12_jumps_19 : decode cX12_jumps 19 = .ok (.aload_n 0, 1) := by decide +kernel
theorem dX12_jumps_20 : decode cX12_jumps 20 = .ok (.getfield 189, 3) := by decide +kernel
theorem dX12_jumps_23 : decode cX12_jumps 23 = .ok (.iconst 1, 1) := by decide +kernel
theorem dX12_jumps_24 : decode cX12_jumps 24 = .ok (.iadd, 1) := by decide +kernel
theorem dX12_jumps_25 : decode cX12_jumps 25 = .ok (.putfield 189, 3) := by decide +kernel
theorem dX12_jumps_28 : decode cX12_jumps 28 = .ok (.aload_n 0, 1) := by decide +kernel
theorem dX12_jumps_29 : decode cX12_jumps 29 = .ok (.iload_n 1, 1) := by decide +kernel
theorem dX12_jumps_30 : decode cX12_jumps 30 = .ok (.iconst 0, 1) := by decide +kernel
theorem dX12_jumps_31 : decode cX12_jumps 31 = .ok (.invokevirtual 195, 3) := by decide +kernel
theorem dX12_jumps_34 : decode cX12_jumps 34 = .ok (.aload_n 0, 1) := by decide +kernel
theorem dX12_jumps_35 : decode cX12_jumps 35 = .ok (.aload_n 0, 1) := by decide +kernel
theorem dX12_jumps_36 : decode cX12_jumps 36 = .ok (.getfield 159, 3) := by decide +kernel
theorem dX12_jumps_39 : decode cX12_jumps 39 = .ok (.iconst 1, 1) := by decide +kernel
theorem dX12_jumps_40 : decode cX12_jumps 40 = .ok (.iadd, 1) := by decide +kernel
theorem dX12_jumps_41 : decode cX12_jumps 41 = .ok (.putfield 159, 3) := by decide +kernel
theorem dX12_jumps_44 : decode cX12_jumps 44 = .ok (.return_, 1) := by decide +kernel
theorem dX12_readsCompared_0 : decode cX12_readsCompared 0 = .ok (.aload_n 0, 1) := by decide +kernel
theorem dX12_readsCompared_1 : decode cX12_readsCompared 1 = .ok (.invokevirtual 221, 3) := by decide +kernel
theorem dX12_readsCompared_4 : decode cX12_readsCompared 4 = .ok (.ifCond .ne 5, 3) := by decide +kernel
theorem dX12_readsCompared_7 : decode cX12_readsCompared 7 = .ok (.iconst 0, 1) := by decide +kernel
theorem dX12_readsCompared_8 : decode cX12_readsCompared 8 = .ok (.ireturn, 1) := by decide +kernel
theorem dX12_readsCompared_9 : decode cX12_readsCompared 9 = .ok (.aload_n 0, 1) := by decide +kernel
theorem dX12_readsCompared_10 : decode cX12_readsCompared 10 = .ok (.invokevirtual 165, 3) := by decide +kernel
theorem dX12_readsCompared_13 : decode cX12_readsCompared 13 = .ok (.bipush 60, 2) := by decide +kernel
theorem dX12_readsCompared_15 : decode cX12_readsCompared 15 = .ok (.if_icmp .ne 8, 3) := by decide +kernel
theorem dX12_readsCompared_18 : decode cX12_readsCompared 18 = .ok (.bipush 7, 2) := by decide +kernel
theorem dX12_readsCompared_20 : decode cX12_readsCompared 20 = .ok (.goto 32, 3) := by decide +kernel
theorem dX12_readsCompared_23 : decode cX12_readsCompared 23 = .ok (.aload_n 0, 1) := by decide +kernel
theorem dX12_readsCompared_24 : decode cX12_readsCompared 24 = .ok (.invokevirtual 165, 3) := by decide +kernel
theorem dX12_readsCompared_27 : decode cX12_readsCompared 27 = .ok (.bipush 62, 2) := by decide +kernel
theorem dX12_readsCompared_29 : decode cX12_readsCompared 29 = .ok (.if_icmp .ne 8, 3) := by decide +kernel
theorem dX12_readsCompared_32 : decode cX12_readsCompared 32 = .ok (.bipush 8, 2) := by decide +kernel
theorem dX12_readsCompared_34 : decode cX12_readsCompared 34 = .ok (.goto 18, 3) := by decide +kernel
theorem dX12_readsCompared_37 : decode cX12_readsCompared 37 = .ok (.aload_n 0, 1) := by decide +kernel
theorem dX12_readsCompared_38 : decode cX12_readsCompared 38 = .ok (.invokevirtual 165, 3) := by decide +kernel
theorem dX12_readsCompared_41 : decode cX12_readsCompared 41 = .ok (.bipush 61, 2) := by decide +kernel
theorem dX12_readsCompared_43 : decode cX12_readsCompared 43 = .ok (.if_icmp .ne 8, 3) := by decide +kernel
theorem dX12_readsCompared_46 : decode cX12_readsCompared 46 = .ok (.bipush 9, 2) := by decide +kernel
theorem dX12_readsCompared_48 : decode cX12_readsCompared 48 = .ok (.goto 4, 3) := by decide +kernel
theorem dX12_readsCompared_51 : decode cX12_readsCompared 51 = .ok (.iconst (-1), 1) := by decide +kernel
theorem dX12_readsCompared_52 : decode cX12_readsCompared 52 = .ok (.istore_n 1, 1) := by decide +kernel
theorem dX12_readsCompared_53 : decode cX12_readsCompared 53 = .ok (.iload_n 1, 1) := by decide +kernel
theorem dX12_readsCompared_54 : decode cX12_readsCompared 54 = .ok (.iconst (-1), 1) := by decide +kernel
theorem dX12_readsCompared_55 : decode cX12_readsCompared 55 = .ok (.if_icmp .ne 13, 3) := by decide +kernel
theorem dX12_readsCompared_58 : decode cX12_readsCompared 58 = .ok (.aload_n 0, 1) := by decide +kernel
theorem dX12_readsCompared_59 : decode cX12_readsCompared 59 = .ok (.iconst 1, 1) := by decide +kernel
theorem dX12_readsCompared_60 : decode cX12_readsCompared 60 = .ok (.aload_n 0, 1) := by decide +kernel
theorem dX12_readsCompared_61 : decode cX12_readsCompared 61 = .ok (.getfield 159, 3) := by decide +kernel
theorem dX12_readsCompared_64 : decode cX12_readsCompared 64 = .ok (.invokevirtual 172, 3) := by decide +kernel
theorem dX12_readsCompared_67 : decode cX12_readsCompared 67 = .ok (.ireturn, 1) := by decide +kernel
theorem dX12_readsCompared_68 : decode cX12_readsCompared 68 = .ok (.aload_n 0, 1) := by decide +kernel
theorem dX12_readsCompared_69 : decode cX12_readsCompared 69 = .ok (.aload_n 0, 1) := by decide +kernel
theorem dX12_readsCompared_70 : decode cX12_readsCompared 70 = .ok (.getfield 159, 3) := by decide +kernel
theorem dX12_readsCompared_73 : decode cX12_readsCompared 73 = .ok (.iconst 1, 1) := by decide +kernel
theorem dX12_readsCompared_74 : decode cX12_readsCompared 74 = .ok (.iadd, 1) := by decide +kernel
theorem dX12_readsCompared_75 : decode cX12_readsCompared 75 = .ok (.putfield 159, 3) := by decide +kernel
theorem dX12_readsCompared_78 : decode cX12_readsCompared 78 = .ok (.aload_n 0, 1) := by decide +kernel
theorem dX12_readsCompared_79 : decode cX12_readsCompared 79 = .ok (.invokevirtual 221, 3) := by decide +kernel
theorem dX12_readsCompared_82 : decode cX12_readsCompared 82 = .ok (.ifCond .ne 5, 3) := by decide +kernel
theorem dX12_readsCompared_85 : decode cX12_readsCompared 85 = .ok (.iconst 0, 1) := by decide +kernel
theorem dX12_readsCompared_86 : decode cX12_readsCompared 86 = .ok (.ireturn, 1) := by decide +kernel
theorem dX12_readsCompared_87 : decode cX12_readsCompared 87 = .ok (.aload_n 0, 1) := by decide +kernel
theorem dX12_readsCompared_88 : decode cX12_readsCompared 88 = .ok (.iload_n 1, 1) := by decide +kernel
theorem dX12_readsCompared_89 : decode cX12_readsCompared 89 = .ok (.iconst 0, 1) := by decide +kernel
theorem dX12_readsCompared_90 : decode cX12_readsCompared 90 = .ok (.invokevirtual 195, 3) := by decide +kernel
theorem dX12_readsCompared_93 : decode cX12_readsCompared 93 = .ok (.aload_n 0, 1) := by decide +kernel
theorem dX12_readsCompared_94 : decode cX12_readsCompared 94 = .ok (.invokevirtual 224, 3) := by decide +kernel
theorem dX12_readsCompared_97 : decode cX12_readsCompared 97 = .ok (.iconst 1, 1) := by decide +kernel
theorem dX12_readsCompared_98 : decode cX12_readsCompared 98 = .ok (.ireturn, 1) := by decide +kernel
theorem dX12_readsCondition_0 : decode cX12_readsCondition 0 = .ok (.aload_n 0, 1) := by decide +kernel
theorem dX12_readsCondition_1 : decode cX12_readsCondition 1 = .ok (.invokevirtual 165, 3) := by decide +kernel
theorem dX12_readsCondition_4 : decode cX12_readsCondition 4 = .ok (.bipush 40, 2) := by decide +kernel
theorem dX12_readsCondition_6 : decode cX12_readsCondition 6 = .ok (.if_icmp .eq 13, 3) := by decide +kernel
theorem dX12_readsCondition_9 : decode cX12_readsCondition 9 = .ok (.aload_n 0, 1) := by decide +kernel
theorem dX12_readsCondition_10 : decode cX12_readsCondition 10 = .ok (.iconst 1, 1) := by decide +kernel
theorem dX12_readsCondition_11 : decode cX12_readsCondition 11 = .ok (.aload_n 0, 1) := by decide +kernel
theorem dX12_readsCondition_12 : decode cX12_readsCondition 12 = .ok (.getfield 159, 3) := by decide +kernel
theorem dX12_readsCondition_15 : decode cX12_readsCondition 15 = .ok (.invokevirtual 172, 3) := by decide +kernel
theorem dX12_readsCondition_18 : decode cX12_readsCondition 18 = .ok (.ireturn, 1) := by decide +kernel
theorem dX12_readsCondition_19 : decode cX12_readsCondition 19 = .ok (.aload_n 0, 1) := by decide +kernel
theorem dX12_readsCondition_20 : decode cX12_readsCondition 20 = .ok (.iconst 0, 1) := by decide +kernel
theorem dX12_readsCondition_21 : decode cX12_readsCondition 21 = .ok (.putfield 186, 3) := by decide +kernel
theorem dX12_readsCondition_24 : decode cX12_readsCondition 24 = .ok (.aload_n 0, 1) := by decide +kernel
theorem dX12_readsCondition_25 : decode cX12_readsCondition 25 = .ok (.iconst 0, 1) := by decide +kernel
theorem dX12_readsCondition_26 : decode cX12_readsCondition 26 = .ok (.putfield 189, 3) := by decide +kernel
theorem dX12_readsCondition_29 : decode cX12_readsCondition 29 = .ok (.aload_n 0, 1) := by decide +kernel
theorem dX12_readsCondition_30 : decode cX12_readsCondition 30 = .ok (.bipush 13, 2) := by decide +kernel
theorem dX12_readsCondition_32 : decode cX12_readsCondition 32 = .ok (.invokevirtual 199, 3) := by decide +kernel
theorem dX12_readsCondition_35 : decode cX12_readsCondition 35 = .ok (.ifCond .ne 5, 3) := by decide +kernel
theorem dX12_readsCondition_38 : decode cX12_readsCondition 38 = .ok (.iconst 0, 1) := by decide +kernel
theorem dX12_readsCondition_39 : decode cX12_readsCondition 39 = .ok (.ireturn, 1) := by decide +kernel
theorem dX12_readsCondition_40 : decode cX12_readsCondition 40 = .ok (.aload_n 0, 1) := by decide +kernel
theorem dX12_readsCondition_41 : decode cX12_readsCondition 41 = .ok (.invokevirtual 165, 3) := by decide +kernel
theorem dX12_readsCondition_44 : decode cX12_readsCondition 44 = .ok (.bipush 33, 2) := by decide +kernel
theorem dX12_readsCondition_46 : decode cX12_readsCondition 46 = .ok (.if_icmp .eq 12, 3) := by decide +kernel
theorem dX12_readsCondition_49 : decode cX12_readsCondition 49 = .ok (.aload_n 0, 1) := by decide +kernel
theorem dX12_readsCondition_50 : decode cX12_readsCondition 50 = .ok (.invokevirtual 165, 3) := by decide +kernel
theorem dX12_readsCondition_53 : decode cX12_readsCondition 53 = .ok (.bipush 40, 2) := by decide +kernel
theorem dX12_readsCondition_55 : decode cX12_readsCondition 55 = .ok (.if_icmp .ne 28, 3) := by decide +kernel
theorem dX12_readsCondition_58 : decode cX12_readsCondition 58 = .ok (.aload_n 0, 1) := by decide +kernel
theorem dX12_readsCondition_59 : decode cX12_readsCondition 59 = .ok (.aload_n 0, 1) := by decide +kernel
theorem dX12_readsCondition_60 : decode cX12_readsCondition 60 = .ok (.invokevirtual 165, 3) := by decide +kernel
theorem dX12_readsCondition_63 : decode cX12_readsCondition 63 = .ok (.bipush 33, 2) := by decide +kernel
theorem dX12_readsCondition_65 : decode cX12_readsCondition 65 = .ok (.if_icmp .ne 8, 3) := by decide +kernel
theorem dX12_readsCondition_68 : decode cX12_readsCondition 68 = .ok (.bipush 10, 2) := by decide +kernel
theorem dX12_readsCondition_70 : decode cX12_readsCondition 70 = .ok (.goto 5, 3) := by decide +kernel
theorem dX12_readsCondition_73 : decode cX12_readsCondition 73 = .ok (.bipush 13, 2) := by decide +kernel
theorem dX12_readsCondition_75 : decode cX12_readsCondition 75 = .ok (.invokevirtual 199, 3) := by decide +kernel
theorem dX12_readsCondition_78 : decode cX12_readsCondition 78 = .ok (.ifCond .ne (-38), 3) := by decide +kernel
theorem dX12_readsCondition_81 : decode cX12_readsCondition 81 = .ok (.iconst 0, 1) := by decide +kernel
theorem dX12_readsCondition_82 : decode cX12_readsCondition 82 = .ok (.ireturn, 1) := by decide +kernel
theorem dX12_readsCondition_83 : decode cX12_readsCondition 83 = .ok (.aload_n 0, 1) := by decide +kernel
theorem dX12_readsCondition_84 : decode cX12_readsCondition 84 = .ok (.invokevirtual 227, 3) := by decide +kernel
theorem dX12_readsCondition_87 : decode cX12_readsCondition 87 = .ok (.ifCond .ne 5, 3) := by decide +kernel
theorem dX12_readsCondition_90 : decode cX12_readsCondition 90 = .ok (.iconst 0, 1) := by decide +kernel
theorem dX12_readsCondition_91 : decode cX12_readsCondition 91 = .ok (.ireturn, 1) := by decide +kernel
theorem dX12_readsCondition_92 : decode cX12_readsCondition 92 = .ok (.aload_n 0, 1) := by decide +kernel
theorem dX12_readsCondition_93 : decode cX12_readsCondition 93 = .ok (.invokevirtual 165, 3) := by decide +kernel
theorem dX12_readsCondition_96 : decode cX12_readsCondition 96 = .ok (.bipush 41, 2) := by decide +kernel
theorem dX12_readsCondition_98 : decode cX12_readsCondition 98 = .ok (.if_icmp .ne 54, 3) := by decide +kernel
theorem dX12_readsCondition_101 : decode cX12_readsCondition 101 = .ok (.aload_n 0, 1) := by decide +kernel
theorem dX12_readsCondition_102 : decode cX12_readsCondition 102 = .ok (.iconst 1, 1) := by decide +kernel
theorem dX12_readsCondition_103 : decode cX12_readsCondition 103 = .ok (.invokevirtual 230, 3) := by decide +kernel
theorem dX12_readsCondition_106 : decode cX12_readsCondition 106 = .ok (.aload_n 0, 1) := by decide +kernel
theorem dX12_readsCondition_107 : decode cX12_readsCondition 107 = .ok (.aload_n 0, 1) := by decide +kernel
theorem dX12_readsCondition_108 : decode cX12_readsCondition 108 = .ok (.getfield 189, 3) := by decide +kernel
theorem dX12_readsCondition_111 : decode cX12_readsCondition 111 = .ok (.iconst 1, 1) := by decide +kernel
theorem dX12_readsCondition_112 : decode cX12_readsCondition 112 = .ok (.isub, 1) := by decide +kernel
theorem dX12_readsCondition_113 : decode cX12_readsCondition 113 = .ok (.putfield 189, 3) := by decide +kernel
theorem dX12_readsCondition_116 : decode cX12_readsCondition 116 = .ok (.aload_n 0, 1) := by decide +kernel
theorem dX12_readsCondition_117 : decode cX12_readsCondition 117 = .ok (.aload_n 0, 1) := by decide +kernel
theorem dX12_readsCondition_118 : decode cX12_readsCondition 118 = .ok (.getfield 186, 3) := by decide +kernel
theorem dX12_readsCondition_121 : decode cX12_readsCondition 121 = .ok (.iconst 1, 1) := by decide +kernel
theorem dX12_readsCondition_122 : decode cX12_readsCondition 122 = .ok (.isub, 1) := by decide +kernel
theorem dX12_readsCondition_123 : decode cX12_readsCondition 123 = .ok (.putfield 186, 3) := by decide +kernel
theorem dX12_readsCondition_126 : decode cX12_readsCondition 126 = .ok (.aload_n 0, 1) := by decide +kernel
theorem dX12_readsCondition_127 : decode cX12_readsCondition 127 = .ok (.aload_n 0, 1) := by decide +kernel
theorem dX12_readsCondition_128 : decode cX12_readsCondition 128 = .ok (.getfield 159, 3) := by decide +kernel
theorem dX12_readsCondition_131 : decode cX12_readsCondition 131 = .ok (.iconst 1, 1) := by decide +kernel
theorem dX12_readsCondition_132 : decode cX12_readsCondition 132 = .ok (.iadd, 1) := by decide +kernel
theorem dX12_readsCondition_133 : decode cX12_readsCondition 133 = .ok (.putfield 159, 3) := by decide +kernel
theorem dX12_readsCondition_136 : decode cX12_readsCondition 136 = .ok (.aload_n 0, 1) := by decide +kernel
theorem dX12_readsCondition_137 : decode cX12_readsCondition 137 = .ok (.getfield 189, 3) := by decide +kernel
theorem dX12_readsCondition_140 : decode cX12_readsCondition 140 = .ok (.ifCond .ne 5, 3) := by decide +kernel
theorem dX12_readsCondition_143 : decode cX12_readsCondition 143 = .ok (.iconst 1, 1) := by decide +kernel
theorem dX12_readsCondition_144 : decode cX12_readsCondition 144 = .ok (.ireturn, 1) := by decide +kernel
theorem dX12_readsCondition_145 : decode cX12_readsCondition 145 = .ok (.aload_n 0, 1) := by decide +kernel
theorem dX12_readsCondition_146 : decode cX12_readsCondition 146 = .ok (.invokevirtual 224, 3) := by decide +kernel
theorem dX12_readsCondition_149 : decode cX12_readsCondition 149 = .ok (.goto (-57), 3) := by decide +kernel
theorem dX12_readsCondition_152 : decode cX12_readsCondition 152 = .ok (.aload_n 0, 1) := by decide +kernel
theorem dX12_readsCondition_153 : decode cX12_readsCondition 153 = .ok (.invokevirtual 165, 3) := by decide +kernel
theorem dX12_readsCondition_156 : decode cX12_readsCondition 156 = .ok (.bipush 38, 2) := by decide +kernel
theorem dX12_readsCondition_158 : decode cX12_readsCondition 158 = .ok (.if_icmp .eq 22, 3) := by decide +kernel
theorem dX12_readsCondition_161 : decode cX12_readsCondition 161 = .ok (.aload_n 0, 1) := by decide +kernel
theorem dX12_readsCondition_162 : decode cX12_readsCondition 162 = .ok (.invokevirtual 165, 3) := by decide +kernel
theorem dX12_readsCondition_165 : decode cX12_readsCondition 165 = .ok (.bipush 124, 2) := by decide +kernel
theorem dX12_readsCondition_167 : decode cX12_readsCondition 167 = .ok (.if_icmp .eq 13, 3) := by decide +kernel
theorem dX12_readsCondition_170 : decode cX12_readsCondition 170 = .ok (.aload_n 0, 1) := by decide +kernel
theorem dX12_readsCondition_171 : decode cX12_readsCondition 171 = .ok (.iconst 1, 1) := by decide +kernel
theorem dX12_readsCondition_172 : decode cX12_readsCondition 172 = .ok (.aload_n 0, 1) := by decide +kernel
theorem dX12_readsCondition_173 : decode cX12_readsCondition 173 = .ok (.getfield 159, 3) := by decide +kernel
theorem dX12_readsCondition_176 : decode cX12_readsCondition 176 = .ok (.invokevirtual 172, 3) := by decide +kernel
theorem dX12_readsCondition_179 : decode cX12_readsCondition 179 = .ok (.ireturn, 1) := by decide +kernel
theorem dX12_readsCondition_180 : decode cX12_readsCondition 180 = .ok (.aload_n 0, 1) := by decide +kernel
theorem dX12_readsCondition_181 : decode cX12_readsCondition 181 = .ok (.aload_n 0, 1) := by decide +kernel
theorem dX12_readsCondition_182 : decode cX12_readsCondition 182 = .ok (.invokevirtual 165, 3) := by decide +kernel
theorem dX12_readsCondition_185 : decode cX12_readsCondition 185 = .ok (.bipush 124, 2) := by decide +kernel
theorem dX12_readsCondition_187 : decode cX12_readsCondition 187 = .ok (.if_icmp .ne 7, 3) := by decide +kernel
theorem dX12_readsCondition_190 : decode cX12_readsCondition 190 = .ok (.iconst 1, 1) := by decide +kernel
theorem dX12_readsCondition_191 : decode cX12_readsCondition 191 = .ok (.goto 4, 3) := by decide +kernel
theorem dX12_readsCondition_194 : decode cX12_readsCondition 194 = .ok (.iconst 0, 1) := by decide +kernel
theorem dX12_readsCondition_195 : decode cX12_readsCondition 195 = .ok (.invokevirtual 230, 3) := by decide +kernel
theorem dX12_readsCondition_198 : decode cX12_readsCondition 198 = .ok (.aload_n 0, 1) := by decide +kernel
theorem dX12_readsCondition_199 : decode cX12_readsCondition 199 = .ok (.aload_n 0, 1) := by decide +kernel
theorem dX12_readsCondition_200 : decode cX12_readsCondition 200 = .ok (.invokevirtual 165, 3) := by decide +kernel
theorem dX12_readsCondition_203 : decode cX12_readsCondition 203 = .ok (.bipush 38, 2) := by decide +kernel
theorem dX12_readsCondition_205 : decode cX12_readsCondition 205 = .ok (.if_icmp .ne 8, 3) := by decide +kernel
theorem dX12_readsCondition_208 : decode cX12_readsCondition 208 = .ok (.bipush 11, 2) := by decide +kernel
theorem dX12_readsCondition_210 : decode cX12_readsCondition 210 = .ok (.goto 5, 3) := by decide +kernel
theorem dX12_readsCondition_213 : decode cX12_readsCondition 213 = .ok (.bipush 12, 2) := by decide +kernel
theorem dX12_readsCondition_215 : decode cX12_readsCondition 215 = .ok (.invokevirtual 233, 3) := by decide +kernel
theorem dX12_readsCondition_218 : decode cX12_readsCondition 218 = .ok (.goto (-178), 3) := by decide +kernel
theorem dX12_readsRule_0 : decode cX12_readsRule 0 = .ok (.aload_n 0, 1) := by decide +kernel
theorem dX12_readsRule_1 : decode cX12_readsRule 1 = .ok (.invokevirtual 165, 3) := by decide +kernel
theorem dX12_readsRule_4 : decode cX12_readsRule 4 = .ok (.istore_n 1, 1) := by decide +kernel
theorem dX12_readsRule_5 : decode cX12_readsRule 5 = .ok (.iload_n 1, 1) := by decide +kernel
theorem dX12_readsRule_6 : decode cX12_readsRule 6 = .ok (.bipush 101, 2) := by decide +kernel
theorem dX12_readsRule_8 : decode cX12_readsRule 8 = .ok (.if_icmp .eq 31, 3) := by decide +kernel
theorem dX12_readsRule_11 : decode cX12_readsRule 11 = .ok (.iload_n 1, 1) := by decide +kernel
theorem dX12_readsRule_12 : decode cX12_readsRule 12 = .ok (.bipush 99, 2) := by decide +kernel
theorem dX12_readsRule_14 : decode cX12_readsRule 14 = .ok (.if_icmp .eq 25, 3) := by decide +kernel
theorem dX12_readsRule_17 : decode cX12_readsRule 17 = .ok (.iload_n 1, 1) := by decide +kernel
theorem dX12_readsRule_18 : decode cX12_readsRule 18 = .ok (.bipush 115, 2) := by decide +kernel
theorem dX12_readsRule_20 : decode cX12_readsRule 20 = .ok (.if_icmp .eq 19, 3) := by decide +kernel
theorem dX12_readsRule_23 : decode cX12_readsRule 23 = .ok (.iload_n 1, 1) := by decide +kernel
theorem dX12_readsRule_24 : decode cX12_readsRule 24 = .ok (.bipush 120, 2) := by decide +kernel
theorem dX12_readsRule_26 : decode cX12_readsRule 26 = .ok (.if_icmp .eq 13, 3) := by decide +kernel
theorem dX12_readsRule_29 : decode cX12_readsRule 29 = .ok (.aload_n 0, 1) := by decide +kernel
theorem dX12_readsRule_30 : decode cX12_readsRule 30 = .ok (.iconst 1, 1) := by decide +kernel
theorem dX12_readsRule_31 : decode cX12_readsRule 31 = .ok (.aload_n 0, 1) := by decide +kernel
theorem dX12_readsRule_32 : decode cX12_readsRule 32 = .ok (.getfield 159, 3) := by decide +kernel
theorem dX12_readsRule_35 : decode cX12_readsRule 35 = .ok (.invokevirtual 172, 3) := by decide +kernel
theorem dX12_readsRule_38 : decode cX12_readsRule 38 = .ok (.ireturn, 1) := by decide +kernel
theorem dX12_readsRule_39 : decode cX12_readsRule 39 = .ok (.aload_n 0, 1) := by decide +kernel
theorem dX12_readsRule_40 : decode cX12_readsRule 40 = .ok (.getfield 236, 3) := by decide +kernel
theorem dX12_readsRule_43 : decode cX12_readsRule 43 = .ok (.bipush 16, 2) := by decide +kernel
theorem dX12_readsRule_45 : decode cX12_readsRule 45 = .ok (.if_icmp .ne 13, 3) := by decide +kernel
theorem dX12_readsRule_48 : decode cX12_readsRule 48 = .ok (.aload_n 0, 1) := by decide +kernel
theorem dX12_readsRule_49 : decode cX12_readsRule 49 = .ok (.iconst 4, 1) := by decide +kernel
theorem dX12_readsRule_50 : decode cX12_readsRule 50 = .ok (.aload_n 0, 1) := by decide +kernel
theorem dX12_readsRule_51 : decode cX12_readsRule 51 = .ok (.getfield 159, 3) := by decide +kernel
theorem dX12_readsRule_54 : decode cX12_readsRule 54 = .ok (.invokevirtual 172, 3) := by decide +kernel
theorem dX12_readsRule_57 : decode cX12_readsRule 57 = .ok (.ireturn, 1) := by decide +kernel
theorem dX12_readsRule_58 : decode cX12_readsRule 58 = .ok (.aload_n 0, 1) := by decide +kernel
theorem dX12_readsRule_59 : decode cX12_readsRule 59 = .ok (.getfield 47, 3) := by decide +kernel
theorem dX12_readsRule_62 : decode cX12_readsRule 62 = .ok (.aload_n 0, 1) := by decide +kernel
theorem dX12_readsRule_63 : decode cX12_readsRule 63 = .ok (.getfield 236, 3) := by decide +kernel
theorem dX12_readsRule_66 : decode cX12_readsRule 66 = .ok (.iload_n 1, 1) := by decide +kernel
theorem dX12_readsRule_67 : decode cX12_readsRule 67 = .ok (.iastore, 1) := by decide +kernel
theorem dX12_readsRule_68 : decode cX12_readsRule 68 = .ok (.aload_n 0, 1) := by decide +kernel
theorem dX12_readsRule_69 : decode cX12_readsRule 69 = .ok (.aload_n 0, 1) := by decide +kernel
theorem dX12_readsRule_70 : decode cX12_readsRule 70 = .ok (.getfield 159, 3) := by decide +kernel
theorem dX12_readsRule_73 : decode cX12_readsRule 73 = .ok (.iconst 1, 1) := by decide +kernel
theorem dX12_readsRule_74 : decode cX12_readsRule 74 = .ok (.iadd, 1) := by decide +kernel
theorem dX12_readsRule_75 : decode cX12_readsRule 75 = .ok (.putfield 159, 3) := by decide +kernel
theorem dX12_readsRule_78 : decode cX12_readsRule 78 = .ok (.aload_n 0, 1) := by decide +kernel
theorem dX12_readsRule_79 : decode cX12_readsRule 79 = .ok (.getfield 50, 3) := by decide +kernel
theorem dX12_readsRule_82 : decode cX12_readsRule 82 = .ok (.aload_n 0, 1) := by decide +kernel
theorem dX12_readsRule_83 : decode cX12_readsRule 83 = .ok (.getfield 236, 3) := by decide +kernel
theorem dX12_readsRule_86 : decode cX12_readsRule 86 = .ok (.aload_n 0, 1) := by decide +kernel
theorem dX12_readsRule_87 : decode cX12_readsRule 87 = .ok (.getfield 182, 3) := by decide +kernel
theorem dX12_readsRule_90 : decode cX12_readsRule 90 = .ok (.iastore, 1) := by decide +kernel
theorem dX12_readsRule_91 : decode cX12_readsRule 91 = .ok (.aload_n 0, 1) := by decide +kernel
theorem dX12_readsRule_92 : decode cX12_readsRule 92 = .ok (.iconst 0, 1) := by decide +kernel
theorem dX12_readsRule_93 : decode cX12_readsRule 93 = .ok (.putfield 186, 3) := by decide +kernel
theorem dX12_readsRule_96 : decode cX12_readsRule 96 = .ok (.aload_n 0, 1) := by decide +kernel
theorem dX12_readsRule_97 : decode cX12_readsRule 97 = .ok (.iconst 0, 1) := by decide +kernel
theorem dX12_readsRule_98 : decode cX12_readsRule 98 = .ok (.putfield 189, 3) := by decide +kernel
theorem dX12_readsRule_101 : decode cX12_readsRule 101 = .ok (.iload_n 1, 1) := by decide +kernel
theorem dX12_readsRule_102 : decode cX12_readsRule 102 = .ok (.bipush 120, 2) := by decide +kernel
theorem dX12_readsRule_104 : decode cX12_readsRule 104 = .ok (.if_icmp .eq 12, 3) := by decide +kernel
theorem dX12_readsRule_107 : decode cX12_readsRule 107 = .ok (.aload_n 0, 1) := by decide +kernel
theorem dX12_readsRule_108 : decode cX12_readsRule 108 = .ok (.invokevirtual 221, 3) := by decide +kernel
theorem dX12_readsRule_111 : decode cX12_readsRule 111 = .ok (.ifCond .ne 5, 3) := by decide +kernel
theorem dX12_readsRule_114 : decode cX12_readsRule 114 = .ok (.iconst 0, 1) := by decide +kernel
theorem dX12_readsRule_115 : decode cX12_readsRule 115 = .ok (.ireturn, 1) := by decide +kernel
theorem dX12_readsRule_116 : decode cX12_readsRule 116 = .ok (.aload_n 0, 1) := by decide +kernel
theorem dX12_readsRule_117 : decode cX12_readsRule 117 = .ok (.getfield 53, 3) := by decide +kernel
theorem dX12_readsRule_120 : decode cX12_readsRule 120 = .ok (.aload_n 0, 1) := by decide +kernel
theorem dX12_readsRule_121 : decode cX12_readsRule 121 = .ok (.getfield 236, 3) := by decide +kernel
theorem dX12_readsRule_124 : decode cX12_readsRule 124 = .ok (.aload_n 0, 1) := by decide +kernel
theorem dX12_readsRule_125 : decode cX12_readsRule 125 = .ok (.getfield 182, 3) := by decide +kernel
theorem dX12_readsRule_128 : decode cX12_readsRule 128 = .ok (.iastore, 1) := by decide +kernel
theorem dX12_readsRule_129 : decode cX12_readsRule 129 = .ok (.aload_n 0, 1) := by decide +kernel
theorem dX12_readsRule_130 : decode cX12_readsRule 130 = .ok (.invokevirtual 239, 3) := by decide +kernel
theorem dX12_readsRule_133 : decode cX12_readsRule 133 = .ok (.ifCond .ne 5, 3) := by decide +kernel
theorem dX12_readsRule_136 : decode cX12_readsRule 136 = .ok (.iconst 0, 1) := by decide +kernel
theorem dX12_readsRule_137 : decode cX12_readsRule 137 = .ok (.ireturn, 1) := by decide +kernel
theorem dX12_readsRule_138 : decode cX12_readsRule 138 = .ok (.aload_n 0, 1) := by decide +kernel
theorem dX12_readsRule_139 : decode cX12_readsRule 139 = .ok (.getfield 56, 3) := by decide +kernel
theorem dX12_readsRule_142 : decode cX12_readsRule 142 = .ok (.aload_n 0, 1) := by decide +kernel
theorem dX12_readsRule_143 : decode cX12_readsRule 143 = .ok (.getfield 236, 3) := by decide +kernel
theorem dX12_readsRule_146 : decode cX12_readsRule 146 = .ok (.aload_n 0, 1) := by decide +kernel
theorem dX12_readsRule_147 : decode cX12_readsRule 147 = .ok (.getfield 182, 3) := by decide +kernel
theorem dX12_readsRule_150 : decode cX12_readsRule 150 = .ok (.iastore, 1) := by decide +kernel
theorem dX12_readsRule_151 : decode cX12_readsRule 151 = .ok (.aload_n 0, 1) := by decide +kernel
theorem dX12_readsRule_152 : decode cX12_readsRule 152 = .ok (.aload_n 0, 1) := by decide +kernel
theorem dX12_readsRule_153 : decode cX12_readsRule 153 = .ok (.getfield 236, 3) := by decide +kernel
theorem dX12_readsRule_156 : decode cX12_readsRule 156 = .ok (.iconst 1, 1) := by decide +kernel
theorem dX12_readsRule_157 : decode cX12_readsRule 157 = .ok (.iadd, 1) := by decide +kernel
theorem dX12_readsRule_158 : decode cX12_readsRule 158 = .ok (.putfield 236, 3) := by decide +kernel
theorem dX12_readsRule_161 : decode cX12_readsRule 161 = .ok (.iconst 1, 1) := by decide +kernel
theorem dX12_readsRule_162 : decode cX12_readsRule 162 = .ok (.ireturn, 1) := by decide +kernel
theorem dX12_beginsText_0 : decode cX12_beginsText 0 = .ok (.aload_n 0, 1) := by decide +kernel
theorem dX12_beginsText_1 : decode cX12_beginsText 1 = .ok (.iconst 0, 1) := by decide +kernel
theorem dX12_beginsText_2 : decode cX12_beginsText 2 = .ok (.putfield 159, 3) := by decide +kernel
theorem dX12_beginsText_5 : decode cX12_beginsText 5 = .ok (.aload_n 0, 1) := by decide +kernel
theorem dX12_beginsText_6 : decode cX12_beginsText 6 = .ok (.iload_n 1, 1) := by decide +kernel
theorem dX12_beginsText_7 : decode cX12_beginsText 7 = .ok (.putfield 162, 3) := by decide +kernel
theorem dX12_beginsText_10 : decode cX12_beginsText 10 = .ok (.aload_n 0, 1) := by decide +kernel
theorem dX12_beginsText_11 : decode cX12_beginsText 11 = .ok (.iconst 0, 1) := by decide +kernel
theorem dX12_beginsText_12 : decode cX12_beginsText 12 = .ok (.putfield 182, 3) := by decide +kernel
theorem dX12_beginsText_15 : decode cX12_beginsText 15 = .ok (.aload_n 0, 1) := by decide +kernel
theorem dX12_beginsText_16 : decode cX12_beginsText 16 = .ok (.iconst 0, 1) := by decide +kernel
theorem dX12_beginsText_17 : decode cX12_beginsText 17 = .ok (.putfield 236, 3) := by decide +kernel
theorem dX12_beginsText_20 : decode cX12_beginsText 20 = .ok (.return_, 1) := by decide +kernel
theorem dX12_law_0 : decode cX12_law 0 = .ok (.iload_n 1, 1) := by decide +kernel
theorem dX12_law_1 : decode cX12_law 1 = .ok (.iconst 1, 1) := by decide +kernel
theorem dX12_law_2 : decode cX12_law 2 = .ok (.sipush 240, 3) := by decide +kernel
theorem dX12_law_5 : decode cX12_law 5 = .ok (.invokestatic 117, 3) := by decide +kernel
theorem dX12_law_8 : decode cX12_law 8 = .ok (.ifCond .eq 11, 3) := by decide +kernel
theorem dX12_law_11 : decode cX12_law 11 = .ok (.iload_n 1, 1) := by decide +kernel
theorem dX12_law_12 : decode cX12_law 12 = .ok (.aload_n 0, 1) := by decide +kernel
theorem dX12_law_13 : decode cX12_law 13 = .ok (.getfield 152, 3) := by decide +kernel
theorem dX12_law_16 : decode cX12_law 16 = .ok (.if_icmp .le 5, 3) := by decide +kernel
theorem dX12_law_19 : decode cX12_law 19 = .ok (.iconst (-1), 1) := by decide +kernel
theorem dX12_law_20 : decode cX12_law 20 = .ok (.ireturn, 1) := by decide +kernel
theorem dX12_law_21 : decode cX12_law 21 = .ok (.aload_n 0, 1) := by decide +kernel
theorem dX12_law_22 : decode cX12_law 22 = .ok (.iload_n 1, 1) := by decide +kernel
theorem dX12_law_23 : decode cX12_law 23 = .ok (.invokevirtual 242, 3) := by decide +kernel
theorem dX12_law_26 : decode cX12_law 26 = .ok (.aload_n 0, 1) := by decide +kernel
theorem dX12_law_27 : decode cX12_law 27 = .ok (.invokevirtual 245, 3) := by decide +kernel
theorem dX12_law_30 : decode cX12_law 30 = .ok (.istore_n 2, 1) := by decide +kernel
theorem dX12_law_31 : decode cX12_law 31 = .ok (.iload_n 2, 1) := by decide +kernel
theorem dX12_law_32 : decode cX12_law 32 = .ok (.ifCond .eq 39, 3) := by decide +kernel
theorem dX12_law_35 : decode cX12_law 35 = .ok (.aload_n 0, 1) := by decide +kernel
theorem dX12_law_36 : decode cX12_law 36 = .ok (.getfield 159, 3) := by decide +kernel
theorem dX12_law_39 : decode cX12_law 39 = .ok (.aload_n 0, 1) := by decide +kernel
theorem dX12_law_40 : decode cX12_law 40 = .ok (.getfield 162, 3) := by decide +kernel
theorem dX12_law_43 : decode cX12_law 43 = .ok (.if_icmp .ge 28, 3) := by decide +kernel
theorem dX12_law_46 : decode cX12_law 46 = .ok (.aload_n 0, 1) := by decide +kernel
theorem dX12_law_47 : decode cX12_law 47 = .ok (.bipush 59, 2) := by decide +kernel
theorem dX12_law_49 : decode cX12_law 49 = .ok (.invokevirtual 248, 3) := by decide +kernel
theorem dX12_law_52 : decode cX12_law 52 = .ok (.ifCond .eq 14, 3) := by decide +kernel
theorem dX12_law_55 : decode cX12_law 55 = .ok (.aload_n 0, 1) := by decide +kernel
theorem dX12_law_56 : decode cX12_law 56 = .ok (.invokevirtual 245, 3) := by decide +kernel
theorem dX12_law_59 : decode cX12_law 59 = .ok (.ifCond .eq 7, 3) := by decide +kernel
theorem dX12_law_62 : decode cX12_law 62 = .ok (.iconst 1, 1) := by decide +kernel
theorem dX12_law_63 : decode cX12_law 63 = .ok (.goto 4, 3) := by decide +kernel
theorem dX12_law_66 : decode cX12_law 66 = .ok (.iconst 0, 1) := by decide +kernel
theorem dX12_law_67 : decode cX12_law 67 = .ok (.istore_n 2, 1) := by decide +kernel
theorem dX12_law_68 : decode cX12_law 68 = .ok (.goto (-37), 3) := by decide +kernel
theorem dX12_law_71 : decode cX12_law 71 = .ok (.aload_n 0, 1) := by decide +kernel
theorem dX12_law_72 : decode cX12_law 72 = .ok (.iconst 0, 1) := by decide +kernel
theorem dX12_law_73 : decode cX12_law 73 = .ok (.putfield 152, 3) := by decide +kernel
theorem dX12_law_76 : decode cX12_law 76 = .ok (.iload_n 2, 1) := by decide +kernel
theorem dX12_law_77 : decode cX12_law 77 = .ok (.ifCond .ne 8, 3) := by decide +kernel
theorem dX12_law_80 : decode cX12_law 80 = .ok (.aload_n 0, 1) := by decide +kernel
theorem dX12_law_81 : decode cX12_law 81 = .ok (.getfield 169, 3) := by decide +kernel
theorem dX12_law_84 : decode cX12_law 84 = .ok (.ireturn, 1) := by decide +kernel
theorem dX12_law_85 : decode cX12_law 85 = .ok (.aload_n 0, 1) := by decide +kernel
theorem dX12_law_86 : decode cX12_law 86 = .ok (.aload_n 0, 1) := by decide +kernel
theorem dX12_law_87 : decode cX12_law 87 = .ok (.getfield 236, 3) := by decide +kernel
theorem dX12_law_90 : decode cX12_law 90 = .ok (.putfield 251, 3) := by decide +kernel
theorem dX12_law_93 : decode cX12_law 93 = .ok (.iconst 0, 1) := by decide +kernel
theorem dX12_law_94 : decode cX12_law 94 = .ok (.istore_n 3, 1) := by decide +kernel
theorem dX12_law_95 : decode cX12_law 95 = .ok (.iload_n 3, 1) := by decide +kernel
theorem dX12_law_96 : decode cX12_law 96 = .ok (.aload_n 0, 1) := by decide +kernel
theorem dX12_law_97 : decode cX12_law 97 = .ok (.getfield 182, 3) := by decide +kernel
theorem dX12_law_100 : decode cX12_law 100 = .ok (.if_icmp .ge 21, 3) := by decide +kernel
theorem dX12_law_103 : decode cX12_law 103 = .ok (.aload_n 0, 1) := by decide +kernel
theorem dX12_law_104 : decode cX12_law 104 = .ok (.getfield 59, 3) := by decide +kernel
theorem dX12_law_107 : decode cX12_law 107 = .ok (.iload_n 3, 1) := by decide +kernel
theorem dX12_law_108 : decode cX12_law 108 = .ok (.aload_n 0, 1) := by decide +kernel
theorem dX12_law_109 : decode cX12_law 109 = .ok (.getfield 41, 3) := by decide +kernel
theorem dX12_law_112 : decode cX12_law 112 = .ok (.iload_n 3, 1) := by decide +kernel
theorem dX12_law_113 : decode cX12_law 113 = .ok (.iaload, 1) := by decide +kernel
theorem dX12_law_114 : decode cX12_law 114 = .ok (.iastore, 1) := by decide +kernel
theorem dX12_law_115 : decode cX12_law 115 = .ok (.iinc 3 1, 3) := by decide +kernel
theorem dX12_law_118 : decode cX12_law 118 = .ok (.goto (-23), 3) := by decide +kernel
theorem dX12_law_121 : decode cX12_law 121 = .ok (.iconst 0, 1) := by decide +kernel
theorem dX12_law_122 : decode cX12_law 122 = .ok (.istore_n 3, 1) := by decide +kernel
theorem dX12_law_123 : decode cX12_law 123 = .ok (.iload_n 3, 1) := by decide +kernel
theorem dX12_law_124 : decode cX12_law 124 = .ok (.aload_n 0, 1) := by decide +kernel
theorem dX12_law_125 : decode cX12_law 125 = .ok (.getfield 236, 3) := by decide +kernel
theorem dX12_law_128 : decode cX12_law 128 = .ok (.if_icmp .ge 57, 3) := by decide +kernel
theorem dX12_law_131 : decode cX12_law 131 = .ok (.aload_n 0, 1) := by decide +kernel
theorem dX12_law_132 : decode cX12_law 132 = .ok (.getfield 62, 3) := by decide +kernel
theorem dX12_law_135 : decode cX12_law 135 = .ok (.iload_n 3, 1) := by decide +kernel
theorem dX12_law_136 : decode cX12_law 136 = .ok (.aload_n 0, 1) := by decide +kernel
theorem dX12_law_137 : decode cX12_law 137 = .ok (.getfield 47, 3) := by decide +kernel
theorem dX12_law_140 : decode cX12_law 140 = .ok (.iload_n 3, 1) := by decide +kernel
theorem dX12_law_141 : decode cX12_law 141 = .ok (.iaload, 1) := by decide +kernel
theorem dX12_law_142 : decode cX12_law 142 = .ok (.iastore, 1) := by decide +kernel
theorem dX12_law_143 : decode cX12_law 143 = .ok (.aload_n 0, 1) := by decide +kernel
theorem dX12_law_144 : decode cX12_law 144 = .ok (.getfield 65, 3) := by decide +kernel
theorem dX12_law_147 : decode cX12_law 147 = .ok (.iload_n 3, 1) := by decide +kernel
theorem dX12_law_148 : decode cX12_law 148 = .ok (.aload_n 0, 1) := by decide +kernel
theorem dX12_law_149 : decode cX12_law 149 = .ok (.getfield 50, 3) := by decide +kernel
theorem dX12_law_152 : decode cX12_law 152 = .ok (.iload_n 3, 1) := by decide +kernel
theorem dX12_law_153 : decode cX12_law 153 = .ok (.iaload, 1) := by decide +kernel
theorem dX12_law_154 : decode cX12_law 154 = .ok (.iastore, 1) := by decide +kernel
theorem dX12_law_155 : decode cX12_law 155 = .ok (.aload_n 0, 1) := by decide +kernel
theorem dX12_law_156 : decode cX12_law 156 = .ok (.getfield 68, 3) := by decide +kernel
theorem dX12_law_159 : decode cX12_law 159 = .ok (.iload_n 3, 1) := by decide +kernel
theorem dX12_law_160 : decode cX12_law 160 = .ok (.aload_n 0, 1) := by decide +kernel
theorem dX12_law_161 : decode cX12_law 161 = .ok (.getfield 53, 3) := by decide +kernel
theorem dX12_law_164 : decode cX12_law 164 = .ok (.iload_n 3, 1) := by decide +kernel
theorem dX12_law_165 : decode cX12_law 165 = .ok (.iaload, 1) := by decide +kernel
theorem dX12_law_166 : decode cX12_law 166 = .ok (.iastore, 1) := by decide +kernel
theorem dX12_law_167 : decode cX12_law 167 = .ok (.aload_n 0, 1) := by decide +kernel
theorem dX12_law_168 : decode cX12_law 168 = .ok (.getfield 71, 3) := by decide +kernel
theorem dX12_law_171 : decode cX12_law 171 = .ok (.iload_n 3, 1) := by decide +kernel
theorem dX12_law_172 : decode cX12_law 172 = .ok (.aload_n 0, 1) := by decide +kernel
theorem dX12_law_173 : decode cX12_law 173 = .ok (.getfield 56, 3) := by decide +kernel
theorem dX12_law_176 : decode cX12_law 176 = .ok (.iload_n 3, 1) := by decide +kernel
theorem dX12_law_177 : decode cX12_law 177 = .ok (.iaload, 1) := by decide +kernel
theorem dX12_law_178 : decode cX12_law 178 = .ok (.iastore, 1) := by decide +kernel
theorem dX12_law_179 : decode cX12_law 179 = .ok (.iinc 3 1, 3) := by decide +kernel
theorem dX12_law_182 : decode cX12_law 182 = .ok (.goto (-59), 3) := by decide +kernel
theorem dX12_law_185 : decode cX12_law 185 = .ok (.aload_n 0, 1) := by decide +kernel
theorem dX12_law_186 : decode cX12_law 186 = .ok (.getfield 236, 3) := by decide +kernel
theorem dX12_law_189 : decode cX12_law 189 = .ok (.ireturn, 1) := by decide +kernel
theorem dX12_reckon_0 : decode cX12_reckon 0 = .ok (.iload_n 0, 1) := by decide +kernel
theorem dX12_reckon_1 : decode cX12_reckon 1 = .ok (.tableswitch 85 2 8 #[43, 47, 51, 55, 59, 63, 74], 43) := by decide +kernel
theorem dX12_reckon_44 : decode cX12_reckon 44 = .ok (.iload_n 1, 1) := by decide +kernel
theorem dX12_reckon_45 : decode cX12_reckon 45 = .ok (.iload_n 2, 1) := by decide +kernel
theorem dX12_reckon_46 : decode cX12_reckon 46 = .ok (.iadd, 1) := by decide +kernel
theorem dX12_reckon_47 : decode cX12_reckon 47 = .ok (.ireturn, 1) := by decide +kernel
theorem dX12_reckon_48 : decode cX12_reckon 48 = .ok (.iload_n 1, 1) := by decide +kernel
theorem dX12_reckon_49 : decode cX12_reckon 49 = .ok (.iload_n 2, 1) := by decide +kernel
theorem dX12_reckon_50 : decode cX12_reckon 50 = .ok (.isub, 1) := by decide +kernel
theorem dX12_reckon_51 : decode cX12_reckon 51 = .ok (.ireturn, 1) := by decide +kernel
theorem dX12_reckon_52 : decode cX12_reckon 52 = .ok (.iload_n 1, 1) := by decide +kernel
theorem dX12_reckon_53 : decode cX12_reckon 53 = .ok (.iload_n 2, 1) := by decide +kernel
theorem dX12_reckon_54 : decode cX12_reckon 54 = .ok (.imul, 1) := by decide +kernel
theorem dX12_reckon_55 : decode cX12_reckon 55 = .ok (.ireturn, 1) := by decide +kernel
theorem dX12_reckon_56 : decode cX12_reckon 56 = .ok (.iload_n 1, 1) := by decide +kernel
theorem dX12_reckon_57 : decode cX12_reckon 57 = .ok (.iload_n 2, 1) := by decide +kernel
theorem dX12_reckon_58 : decode cX12_reckon 58 = .ok (.idiv, 1) := by decide +kernel
theorem dX12_reckon_59 : decode cX12_reckon 59 = .ok (.ireturn, 1) := by decide +kernel
theorem dX12_reckon_60 : decode cX12_reckon 60 = .ok (.iload_n 1, 1) := by decide +kernel
theorem dX12_reckon_61 : decode cX12_reckon 61 = .ok (.iload_n 2, 1) := by decide +kernel
theorem dX12_reckon_62 : decode cX12_reckon 62 = .ok (.irem, 1) := by decide +kernel
theorem dX12_reckon_63 : decode cX12_reckon 63 = .ok (.ireturn, 1) := by decide +kernel
theorem dX12_reckon_64 : decode cX12_reckon 64 = .ok (.iload_n 1, 1) := by decide +kernel
theorem dX12_reckon_65 : decode cX12_reckon 65 = .ok (.iload_n 2, 1) := by decide +kernel
theorem dX12_reckon_66 : decode cX12_reckon 66 = .ok (.if_icmp .ge 7, 3) := by decide +kernel
theorem dX12_reckon_69 : decode cX12_reckon 69 = .ok (.iconst 1, 1) := by decide +kernel
theorem dX12_reckon_70 : decode cX12_reckon 70 = .ok (.goto 4, 3) := by decide +kernel
theorem dX12_reckon_73 : decode cX12_reckon 73 = .ok (.iconst 0, 1) := by decide +kernel
theorem dX12_reckon_74 : decode cX12_reckon 74 = .ok (.ireturn, 1) := by decide +kernel
theorem dX12_reckon_75 : decode cX12_reckon 75 = .ok (.iload_n 1, 1) := by decide +kernel
theorem dX12_reckon_76 : decode cX12_reckon 76 = .ok (.iload_n 2, 1) := by decide +kernel
theorem dX12_reckon_77 : decode cX12_reckon 77 = .ok (.if_icmp .le 7, 3) := by decide +kernel
theorem dX12_reckon_80 : decode cX12_reckon 80 = .ok (.iconst 1, 1) := by decide +kernel
theorem dX12_reckon_81 : decode cX12_reckon 81 = .ok (.goto 4, 3) := by decide +kernel
theorem dX12_reckon_84 : decode cX12_reckon 84 = .ok (.iconst 0, 1) := by decide +kernel
theorem dX12_reckon_85 : decode cX12_reckon 85 = .ok (.ireturn, 1) := by decide +kernel
theorem dX12_reckon_86 : decode cX12_reckon 86 = .ok (.iload_n 1, 1) := by decide +kernel
theorem dX12_reckon_87 : decode cX12_reckon 87 = .ok (.iload_n 2, 1) := by decide +kernel
theorem dX12_reckon_88 : decode cX12_reckon 88 = .ok (.if_icmp .ne 7, 3) := by decide +kernel
theorem dX12_reckon_91 : decode cX12_reckon 91 = .ok (.iconst 1, 1) := by decide +kernel
theorem dX12_reckon_92 : decode cX12_reckon 92 = .ok (.goto 4, 3) := by decide +kernel
theorem dX12_reckon_95 : decode cX12_reckon 95 = .ok (.iconst 0, 1) := by decide +kernel
theorem dX12_reckon_96 : decode cX12_reckon 96 = .ok (.ireturn, 1) := by decide +kernel
theorem dX12_reckonsTo_0 : decode cX12_reckonsTo 0 = .ok (.iconst 0, 1) := by decide +kernel
theorem dX12_reckonsTo_1 : decode cX12_reckonsTo 1 = .ok (.istore_n 3, 1) := by decide +kernel
theorem dX12_reckonsTo_2 : decode cX12_reckonsTo 2 = .ok (.sipush 260, 3) := by decide +kernel
theorem dX12_reckonsTo_5 : decode cX12_reckonsTo 5 = .ok (.iload_n 1, 1) := by decide +kernel
theorem dX12_reckonsTo_6 : decode cX12_reckonsTo 6 = .ok (.sipush 260, 3) := by decide +kernel
theorem dX12_reckonsTo_9 : decode cX12_reckonsTo 9 = .ok (.idiv, 1) := by decide +kernel
theorem dX12_reckonsTo_10 : decode cX12_reckonsTo 10 = .ok (.imul, 1) := by decide +kernel
theorem dX12_reckonsTo_11 : decode cX12_reckonsTo 11 = .ok (.istore 4, 2) := by decide +kernel
theorem dX12_reckonsTo_13 : decode cX12_reckonsTo 13 = .ok (.iload_n 1, 1) := by decide +kernel
theorem dX12_reckonsTo_14 : decode cX12_reckonsTo 14 = .ok (.istore 5, 2) := by decide +kernel
theorem dX12_reckonsTo_16 : decode cX12_reckonsTo 16 = .ok (.iload 5, 2) := by decide +kernel
theorem dX12_reckonsTo_18 : decode cX12_reckonsTo 18 = .ok (.iload_n 2, 1) := by decide +kernel
theorem dX12_reckonsTo_19 : decode cX12_reckonsTo 19 = .ok (.if_icmp .ge 214, 3) := by decide +kernel
theorem dX12_reckonsTo_22 : decode cX12_reckonsTo 22 = .ok (.aload_n 0, 1) := by decide +kernel
theorem dX12_reckonsTo_23 : decode cX12_reckonsTo 23 = .ok (.getfield 59, 3) := by decide +kernel
theorem dX12_reckonsTo_26 : decode cX12_reckonsTo 26 = .ok (.iload 5, 2) := by decide +kernel
theorem dX12_reckonsTo_28 : decode cX12_reckonsTo 28 = .ok (.iaload, 1) := by decide +kernel
theorem dX12_reckonsTo_29 : decode cX12_reckonsTo 29 = .ok (.ldc 185, 2) := by decide +kernel
theorem dX12_reckonsTo_31 : decode cX12_reckonsTo 31 = .ok (.idiv, 1) := by decide +kernel
theorem dX12_reckonsTo_32 : decode cX12_reckonsTo 32 = .ok (.istore 6, 2) := by decide +kernel
theorem dX12_reckonsTo_34 : decode cX12_reckonsTo 34 = .ok (.aload_n 0, 1) := by decide +kernel
theorem dX12_reckonsTo_35 : decode cX12_reckonsTo 35 = .ok (.getfield 59, 3) := by decide +kernel
theorem dX12_reckonsTo_38 : decode cX12_reckonsTo 38 = .ok (.iload 5, 2) := by decide +kernel
theorem dX12_reckonsTo_40 : decode cX12_reckonsTo 40 = .ok (.iaload, 1) := by decide +kernel
theorem dX12_reckonsTo_41 : decode cX12_reckonsTo 41 = .ok (.ldc 185, 2) := by decide +kernel
theorem dX12_reckonsTo_43 : decode cX12_reckonsTo 43 = .ok (.irem, 1) := by decide +kernel
theorem dX12_reckonsTo_44 : decode cX12_reckonsTo 44 = .ok (.istore 7, 2) := by decide +kernel
theorem dX12_reckonsTo_46 : decode cX12_reckonsTo 46 = .ok (.iload 5, 2) := by decide +kernel
theorem dX12_reckonsTo_48 : decode cX12_reckonsTo 48 = .ok (.iconst 1, 1) := by decide +kernel
theorem dX12_reckonsTo_49 : decode cX12_reckonsTo 49 = .ok (.iadd, 1) := by decide +kernel
theorem dX12_reckonsTo_50 : decode cX12_reckonsTo 50 = .ok (.istore 5, 2) := by decide +kernel
theorem dX12_reckonsTo_52 : decode cX12_reckonsTo 52 = .ok (.iload 6, 2) := by decide +kernel
theorem dX12_reckonsTo_54 : decode cX12_reckonsTo 54 = .ok (.ifCond .eq 9, 3) := by decide +kernel
theorem dX12_reckonsTo_57 : decode cX12_reckonsTo 57 = .ok (.iload 6, 2) := by decide +kernel
theorem dX12_reckonsTo_59 : decode cX12_reckonsTo 59 = .ok (.iconst 1, 1) := by decide +kernel
theorem dX12_reckonsTo_60 : decode cX12_reckonsTo 60 = .ok (.if_icmp .ne 33, 3) := by decide +kernel
theorem dX12_reckonsTo_63 : decode cX12_reckonsTo 63 = .ok (.aload_n 0, 1) := by decide +kernel
theorem dX12_reckonsTo_64 : decode cX12_reckonsTo 64 = .ok (.getfield 74, 3) := by decide +kernel
theorem dX12_reckonsTo_67 : decode cX12_reckonsTo 67 = .ok (.iload_n 3, 1) := by decide +kernel
theorem dX12_reckonsTo_68 : decode cX12_reckonsTo 68 = .ok (.iload 6, 2) := by decide +kernel
theorem dX12_reckonsTo_70 : decode cX12_reckonsTo 70 = .ok (.ifCond .ne 8, 3) := by decide +kernel
theorem dX12_reckonsTo_73 : decode cX12_reckonsTo 73 = .ok (.iload 7, 2) := by decide +kernel
theorem dX12_reckonsTo_75 : decode cX12_reckonsTo 75 = .ok (.goto 10, 3) := by decide +kernel
theorem dX12_reckonsTo_78 : decode cX12_reckonsTo 78 = .ok (.aload_n 0, 1) := by decide +kernel
theorem dX12_reckonsTo_79 : decode cX12_reckonsTo 79 = .ok (.getfield 77, 3) := by decide +kernel
theorem dX12_reckonsTo_82 : decode cX12_reckonsTo 82 = .ok (.iload 7, 2) := by decide +kernel
theorem dX12_reckonsTo_84 : decode cX12_reckonsTo 84 = .ok (.iaload, 1) := by decide +kernel
theorem dX12_reckonsTo_85 : decode cX12_reckonsTo 85 = .ok (.iastore, 1) := by decide +kernel
theorem dX12_reckonsTo_86 : decode cX12_reckonsTo 86 = .ok (.iload_n 3, 1) := by decide +kernel
theorem dX12_reckonsTo_87 : decode cX12_reckonsTo 87 = .ok (.iconst 1, 1) := by decide +kernel
theorem dX12_reckonsTo_88 : decode cX12_reckonsTo 88 = .ok (.iadd, 1) := by decide +kernel
theorem dX12_reckonsTo_89 : decode cX12_reckonsTo 89 = .ok (.istore_n 3, 1) := by decide +kernel
theorem dX12_reckonsTo_90 : decode cX12_reckonsTo 90 = .ok (.goto 140, 3) := by decide +kernel
theorem dX12_reckonsTo_93 : decode cX12_reckonsTo 93 = .ok (.iload 6, 2) := by decide +kernel
theorem dX12_reckonsTo_95 : decode cX12_reckonsTo 95 = .ok (.bipush 10, 2) := by decide +kernel
theorem dX12_reckonsTo_97 : decode cX12_reckonsTo 97 = .ok (.if_icmp .ne 24, 3) := by decide +kernel
theorem dX12_reckonsTo_100 : decode cX12_reckonsTo 100 = .ok (.aload_n 0, 1) := by decide +kernel
theorem dX12_reckonsTo_101 : decode cX12_reckonsTo 101 = .ok (.getfield 74, 3) := by decide +kernel
theorem dX12_reckonsTo_104 : decode cX12_reckonsTo 104 = .ok (.iload_n 3, 1) := by decide +kernel
theorem dX12_reckonsTo_105 : decode cX12_reckonsTo 105 = .ok (.iconst 1, 1) := by decide +kernel
theorem dX12_reckonsTo_106 : decode cX12_reckonsTo 106 = .ok (.isub, 1) := by decide +kernel
theorem dX12_reckonsTo_107 : decode cX12_reckonsTo 107 = .ok (.iconst 1, 1) := by decide +kernel
theorem dX12_reckonsTo_108 : decode cX12_reckonsTo 108 = .ok (.aload_n 0, 1) := by decide +kernel
theorem dX12_reckonsTo_109 : decode cX12_reckonsTo 109 = .ok (.getfield 74, 3) := by decide +kernel
theorem dX12_reckonsTo_112 : decode cX12_reckonsTo 112 = .ok (.iload_n 3, 1) := by decide +kernel
theorem dX12_reckonsTo_113 : decode cX12_reckonsTo 113 = .ok (.iconst 1, 1) := by decide +kernel
theorem dX12_reckonsTo_114 : decode cX12_reckonsTo 114 = .ok (.isub, 1) := by decide +kernel
theorem dX12_reckonsTo_115 : decode cX12_reckonsTo 115 = .ok (.iaload, 1) := by decide +kernel
theorem dX12_reckonsTo_116 : decode cX12_reckonsTo 116 = .ok (.isub, 1) := by decide +kernel
theorem dX12_reckonsTo_117 : decode cX12_reckonsTo 117 = .ok (.iastore, 1) := by decide +kernel
theorem dX12_reckonsTo_118 : decode cX12_reckonsTo 118 = .ok (.goto 112, 3) := by decide +kernel
theorem dX12_reckonsTo_121 : decode cX12_reckonsTo 121 = .ok (.iload 6, 2) := by decide +kernel
theorem dX12_reckonsTo_123 : decode cX12_reckonsTo 123 = .ok (.bipush 11, 2) := by decide +kernel
theorem dX12_reckonsTo_125 : decode cX12_reckonsTo 125 = .ok (.if_icmp .eq 10, 3) := by decide +kernel
theorem dX12_reckonsTo_128 : decode cX12_reckonsTo 128 = .ok (.iload 6, 2) := by decide +kernel
theorem dX12_reckonsTo_130 : decode cX12_reckonsTo 130 = .ok (.bipush 12, 2) := by decide +kernel
theorem dX12_reckonsTo_132 : decode cX12_reckonsTo 132 = .ok (.if_icmp .ne 43, 3) := by decide +kernel
theorem dX12_reckonsTo_135 : decode cX12_reckonsTo 135 = .ok (.aload_n 0, 1) := by decide +kernel
theorem dX12_reckonsTo_136 : decode cX12_reckonsTo 136 = .ok (.getfield 74, 3) := by decide +kernel
theorem dX12_reckonsTo_139 : decode cX12_reckonsTo 139 = .ok (.iload_n 3, 1) := by decide +kernel
theorem dX12_reckonsTo_140 : decode cX12_reckonsTo 140 = .ok (.iconst 1, 1) := by decide +kernel
theorem dX12_reckonsTo_141 : decode cX12_reckonsTo 141 = .ok (.isub, 1) := by decide +kernel
theorem dX12_reckonsTo_142 : decode cX12_reckonsTo 142 = .ok (.iaload, 1) := by decide +kernel
theorem dX12_reckonsTo_143 : decode cX12_reckonsTo 143 = .ok (.iload 6, 2) := by decide +kernel
theorem dX12_reckonsTo_145 : decode cX12_reckonsTo 145 = .ok (.bipush 12, 2) := by decide +kernel
theorem dX12_reckonsTo_147 : decode cX12_reckonsTo 147 = .ok (.if_icmp .ne 7, 3) := by decide +kernel
theorem dX12_reckonsTo_150 : decode cX12_reckonsTo 150 = .ok (.iconst 1, 1) := by decide +kernel
theorem dX12_reckonsTo_151 : decode cX12_reckonsTo 151 = .ok (.goto 4, 3) := by decide +kernel
theorem dX12_reckonsTo_154 : decode cX12_reckonsTo 154 = .ok (.iconst 0, 1) := by decide +kernel
theorem dX12_reckonsTo_155 : decode cX12_reckonsTo 155 = .ok (.if_icmp .ne 13, 3) := by decide +kernel
theorem dX12_reckonsTo_158 : decode cX12_reckonsTo 158 = .ok (.iload 4, 2) := by decide +kernel
theorem dX12_reckonsTo_160 : decode cX12_reckonsTo 160 = .ok (.iload 7, 2) := by decide +kernel
theorem dX12_reckonsTo_162 : decode cX12_reckonsTo 162 = .ok (.iadd, 1) := by decide +kernel
theorem dX12_reckonsTo_163 : decode cX12_reckonsTo 163 = .ok (.istore 5, 2) := by decide +kernel
theorem dX12_reckonsTo_165 : decode cX12_reckonsTo 165 = .ok (.goto 65, 3) := by decide +kernel
theorem dX12_reckonsTo_168 : decode cX12_reckonsTo 168 = .ok (.iload_n 3, 1) := by decide +kernel
theorem dX12_reckonsTo_169 : decode cX12_reckonsTo 169 = .ok (.iconst 1, 1) := by decide +kernel
theorem dX12_reckonsTo_170 : decode cX12_reckonsTo 170 = .ok (.isub, 1) := by decide +kernel
theorem dX12_reckonsTo_171 : decode cX12_reckonsTo 171 = .ok (.istore_n 3, 1) := by decide +kernel
theorem dX12_reckonsTo_172 : decode cX12_reckonsTo 172 = .ok (.goto 58, 3) := by decide +kernel
theorem dX12_reckonsTo_175 : decode cX12_reckonsTo 175 = .ok (.iload_n 3, 1) := by decide +kernel
theorem dX12_reckonsTo_176 : decode cX12_reckonsTo 176 = .ok (.iconst 1, 1) := by decide +kernel
theorem dX12_reckonsTo_177 : decode cX12_reckonsTo 177 = .ok (.isub, 1) := by decide +kernel
theorem dX12_reckonsTo_178 : decode cX12_reckonsTo 178 = .ok (.istore_n 3, 1) := by decide +kernel
theorem dX12_reckonsTo_179 : decode cX12_reckonsTo 179 = .ok (.iload 6, 2) := by decide +kernel
theorem dX12_reckonsTo_181 : decode cX12_reckonsTo 181 = .ok (.iconst 5, 1) := by decide +kernel
theorem dX12_reckonsTo_182 : decode cX12_reckonsTo 182 = .ok (.if_icmp .eq 10, 3) := by decide +kernel
theorem dX12_reckonsTo_185 : decode cX12_reckonsTo 185 = .ok (.iload 6, 2) := by decide +kernel
theorem dX12_reckonsTo_187 : decode cX12_reckonsTo 187 = .ok (.bipush 6, 2) := by decide +kernel
theorem dX12_reckonsTo_189 : decode cX12_reckonsTo 189 = .ok (.if_icmp .ne 14, 3) := by decide +kernel
theorem dX12_reckonsTo_192 : decode cX12_reckonsTo 192 = .ok (.aload_n 0, 1) := by decide +kernel
theorem dX12_reckonsTo_193 : decode cX12_reckonsTo 193 = .ok (.getfield 74, 3) := by decide +kernel
theorem dX12_reckonsTo_196 : decode cX12_reckonsTo 196 = .ok (.iload_n 3, 1) := by decide +kernel
theorem dX12_reckonsTo_197 : decode cX12_reckonsTo 197 = .ok (.iaload, 1) := by decide +kernel
theorem dX12_reckonsTo_198 : decode cX12_reckonsTo 198 = .ok (.ifCond .ne 5, 3) := by decide +kernel
theorem dX12_reckonsTo_201 : decode cX12_reckonsTo 201 = .ok (.iconst 0, 1) := by decide +kernel
theorem dX12_reckonsTo_202 : decode cX12_reckonsTo 202 = .ok (.ireturn, 1) := by decide +kernel
theorem dX12_reckonsTo_203 : decode cX12_reckonsTo 203 = .ok (.aload_n 0, 1) := by decide +kernel
theorem dX12_reckonsTo_204 : decode cX12_reckonsTo 204 = .ok (.getfield 74, 3) := by decide +kernel
theorem dX12_reckonsTo_207 : decode cX12_reckonsTo 207 = .ok (.iload_n 3, 1) := by decide +kernel
theorem dX12_reckonsTo_208 : decode cX12_reckonsTo 208 = .ok (.iconst 1, 1) := by decide +kernel
theorem dX12_reckonsTo_209 : decode cX12_reckonsTo 209 = .ok (.isub, 1) := by decide +kernel
theorem dX12_reckonsTo_210 : decode cX12_reckonsTo 210 = .ok (.iload 6, 2) := by decide +kernel
theorem dX12_reckonsTo_212 : decode cX12_reckonsTo 212 = .ok (.aload_n 0, 1) := by decide +kernel
theorem dX12_reckonsTo_213 : decode cX12_reckonsTo 213 = .ok (.getfield 74, 3) := by decide +kernel
theorem dX12_reckonsTo_216 : decode cX12_reckonsTo 216 = .ok (.iload_n 3, 1) := by decide +kernel
theorem dX12_reckonsTo_217 : decode cX12_reckonsTo 217 = .ok (.iconst 1, 1) := by decide +kernel
theorem dX12_reckonsTo_218 : decode cX12_reckonsTo 218 = .ok (.isub, 1) := by decide +kernel
theorem dX12_reckonsTo_219 : decode cX12_reckonsTo 219 = .ok (.iaload, 1) := by decide +kernel
theorem dX12_reckonsTo_220 : decode cX12_reckonsTo 220 = .ok (.aload_n 0, 1) := by decide +kernel
theorem dX12_reckonsTo_221 : decode cX12_reckonsTo 221 = .ok (.getfield 74, 3) := by decide +kernel
theorem dX12_reckonsTo_224 : decode cX12_reckonsTo 224 = .ok (.iload_n 3, 1) := by decide +kernel
theorem dX12_reckonsTo_225 : decode cX12_reckonsTo 225 = .ok (.iaload, 1) := by decide +kernel
theorem dX12_reckonsTo_226 : decode cX12_reckonsTo 226 = .ok (.invokestatic 254, 3) := by decide +kernel
theorem dX12_reckonsTo_229 : decode cX12_reckonsTo 229 = .ok (.iastore, 1) := by decide +kernel
theorem dX12_reckonsTo_230 : decode cX12_reckonsTo 230 = .ok (.goto (-214), 3) := by decide +kernel
theorem dX12_reckonsTo_233 : decode cX12_reckonsTo 233 = .ok (.aload_n 0, 1) := by decide +kernel
theorem dX12_reckonsTo_234 : decode cX12_reckonsTo 234 = .ok (.getfield 74, 3) := by decide +kernel
theorem dX12_reckonsTo_237 : decode cX12_reckonsTo 237 = .ok (.iconst 0, 1) := by decide +kernel
theorem dX12_reckonsTo_238 : decode cX12_reckonsTo 238 = .ok (.iaload, 1) := by decide +kernel
theorem dX12_reckonsTo_239 : decode cX12_reckonsTo 239 = .ok (.ireturn, 1) := by decide +kernel
theorem dX12_byLaw_0 : decode cX12_byLaw 0 = .ok (.iconst 0, 1) := by decide +kernel
theorem dX12_byLaw_1 : decode cX12_byLaw 1 = .ok (.istore_n 3, 1) := by decide +kernel
theorem dX12_byLaw_2 : decode cX12_byLaw 2 = .ok (.iload_n 3, 1) := by decide +kernel
theorem dX12_byLaw_3 : decode cX12_byLaw 3 = .ok (.aload_n 0, 1) := by decide +kernel
theorem dX12_byLaw_4 : decode cX12_byLaw 4 = .ok (.getfield 251, 3) := by decide +kernel
theorem dX12_byLaw_7 : decode cX12_byLaw 7 = .ok (.if_icmp .ge 82, 3) := by decide +kernel
theorem dX12_byLaw_10 : decode cX12_byLaw 10 = .ok (.aload_n 0, 1) := by decide +kernel
theorem dX12_byLaw_11 : decode cX12_byLaw 11 = .ok (.getfield 62, 3) := by decide +kernel
theorem dX12_byLaw_14 : decode cX12_byLaw 14 = .ok (.iload_n 3, 1) := by decide +kernel
theorem dX12_byLaw_15 : decode cX12_byLaw 15 = .ok (.iaload, 1) := by decide +kernel
theorem dX12_byLaw_16 : decode cX12_byLaw 16 = .ok (.iload_n 1, 1) := by decide +kernel
theorem dX12_byLaw_17 : decode cX12_byLaw 17 = .ok (.if_icmp .ne 66, 3) := by decide +kernel
theorem dX12_byLaw_20 : decode cX12_byLaw 20 = .ok (.aload_n 0, 1) := by decide +kernel
theorem dX12_byLaw_21 : decode cX12_byLaw 21 = .ok (.aload_n 0, 1) := by decide +kernel
theorem dX12_byLaw_22 : decode cX12_byLaw 22 = .ok (.getfield 68, 3) := by decide +kernel
theorem dX12_byLaw_25 : decode cX12_byLaw 25 = .ok (.iload_n 3, 1) := by decide +kernel
theorem dX12_byLaw_26 : decode cX12_byLaw 26 = .ok (.iaload, 1) := by decide +kernel
theorem dX12_byLaw_27 : decode cX12_byLaw 27 = .ok (.aload_n 0, 1) := by decide +kernel
theorem dX12_byLaw_28 : decode cX12_byLaw 28 = .ok (.getfield 71, 3) := by decide +kernel
theorem dX12_byLaw_31 : decode cX12_byLaw 31 = .ok (.iload_n 3, 1) := by decide +kernel
theorem dX12_byLaw_32 : decode cX12_byLaw 32 = .ok (.iaload, 1) := by decide +kernel
theorem dX12_byLaw_33 : decode cX12_byLaw 33 = .ok (.invokevirtual 258, 3) := by decide +kernel
theorem dX12_byLaw_36 : decode cX12_byLaw 36 = .ok (.iconst 1, 1) := by decide +kernel
theorem dX12_byLaw_37 : decode cX12_byLaw 37 = .ok (.if_icmp .eq 6, 3) := by decide +kernel
theorem dX12_byLaw_40 : decode cX12_byLaw 40 = .ok (.goto 43, 3) := by decide +kernel
theorem dX12_byLaw_43 : decode cX12_byLaw 43 = .ok (.aload_n 0, 1) := by decide +kernel
theorem dX12_byLaw_44 : decode cX12_byLaw 44 = .ok (.aload_n 0, 1) := by decide +kernel
theorem dX12_byLaw_45 : decode cX12_byLaw 45 = .ok (.getfield 65, 3) := by decide +kernel
theorem dX12_byLaw_48 : decode cX12_byLaw 48 = .ok (.iload_n 3, 1) := by decide +kernel
theorem dX12_byLaw_49 : decode cX12_byLaw 49 = .ok (.iaload, 1) := by decide +kernel
theorem dX12_byLaw_50 : decode cX12_byLaw 50 = .ok (.aload_n 0, 1) := by decide +kernel
theorem dX12_byLaw_51 : decode cX12_byLaw 51 = .ok (.getfield 68, 3) := by decide +kernel
theorem dX12_byLaw_54 : decode cX12_byLaw 54 = .ok (.iload_n 3, 1) := by decide +kernel
theorem dX12_byLaw_55 : decode cX12_byLaw 55 = .ok (.iaload, 1) := by decide +kernel
theorem dX12_byLaw_56 : decode cX12_byLaw 56 = .ok (.invokevirtual 258, 3) := by decide +kernel
theorem dX12_byLaw_59 : decode cX12_byLaw 59 = .ok (.istore 4, 2) := by decide +kernel
theorem dX12_byLaw_61 : decode cX12_byLaw 61 = .ok (.iload 4, 2) := by decide +kernel
theorem dX12_byLaw_63 : decode cX12_byLaw 63 = .ok (.ifCond .ge 7, 3) := by decide +kernel
theorem dX12_byLaw_66 : decode cX12_byLaw 66 = .ok (.iconst 0, 1) := by decide +kernel
theorem dX12_byLaw_67 : decode cX12_byLaw 67 = .ok (.goto 15, 3) := by decide +kernel
theorem dX12_byLaw_70 : decode cX12_byLaw 70 = .ok (.iload 4, 2) := by decide +kernel
theorem dX12_byLaw_72 : decode cX12_byLaw 72 = .ok (.iload_n 2, 1) := by decide +kernel
theorem dX12_byLaw_73 : decode cX12_byLaw 73 = .ok (.if_icmp .le 7, 3) := by decide +kernel
theorem dX12_byLaw_76 : decode cX12_byLaw 76 = .ok (.iload_n 2, 1) := by decide +kernel
theorem dX12_byLaw_77 : decode cX12_byLaw 77 = .ok (.goto 5, 3) := by decide +kernel
theorem dX12_byLaw_80 : decode cX12_byLaw 80 = .ok (.iload 4, 2) := by decide +kernel
theorem dX12_byLaw_82 : decode cX12_byLaw 82 = .ok (.ireturn, 1) := by decide +kernel
theorem dX12_byLaw_83 : decode cX12_byLaw 83 = .ok (.iinc 3 1, 3) := by decide +kernel
theorem dX12_byLaw_86 : decode cX12_byLaw 86 = .ok (.goto (-84), 3) := by decide +kernel
theorem dX12_byLaw_89 : decode cX12_byLaw 89 = .ok (.iconst 0, 1) := by decide +kernel
theorem dX12_byLaw_90 : decode cX12_byLaw 90 = .ok (.ireturn, 1) := by decide +kernel
theorem dX12_holdsAny_0 : decode cX12_holdsAny 0 = .ok (.iconst 0, 1) := by decide +kernel
theorem dX12_holdsAny_1 : decode cX12_holdsAny 1 = .ok (.istore_n 2, 1) := by decide +kernel
theorem dX12_holdsAny_2 : decode cX12_holdsAny 2 = .ok (.iload_n 2, 1) := by decide +kernel
theorem dX12_holdsAny_3 : decode cX12_holdsAny 3 = .ok (.aload_n 0, 1) := by decide +kernel
theorem dX12_holdsAny_4 : decode cX12_holdsAny 4 = .ok (.getfield 251, 3) := by decide +kernel
theorem dX12_holdsAny_7 : decode cX12_holdsAny 7 = .ok (.if_icmp .ge 41, 3) := by decide +kernel
theorem dX12_holdsAny_10 : decode cX12_holdsAny 10 = .ok (.aload_n 0, 1) := by decide +kernel
theorem dX12_holdsAny_11 : decode cX12_holdsAny 11 = .ok (.getfield 62, 3) := by decide +kernel
theorem dX12_holdsAny_14 : decode cX12_holdsAny 14 = .ok (.iload_n 2, 1) := by decide +kernel
theorem dX12_holdsAny_15 : decode cX12_holdsAny 15 = .ok (.iaload, 1) := by decide +kernel
theorem dX12_holdsAny_16 : decode cX12_holdsAny 16 = .ok (.iload_n 1, 1) := by decide +kernel
theorem dX12_holdsAny_17 : decode cX12_holdsAny 17 = .ok (.if_icmp .ne 25, 3) := by decide +kernel
theorem dX12_holdsAny_20 : decode cX12_holdsAny 20 = .ok (.aload_n 0, 1) := by decide +kernel
theorem dX12_holdsAny_21 : decode cX12_holdsAny 21 = .ok (.aload_n 0, 1) := by decide +kernel
theorem dX12_holdsAny_22 : decode cX12_holdsAny 22 = .ok (.getfield 68, 3) := by decide +kernel
theorem dX12_holdsAny_25 : decode cX12_holdsAny 25 = .ok (.iload_n 2, 1) := by decide +kernel
theorem dX12_holdsAny_26 : decode cX12_holdsAny 26 = .ok (.iaload, 1) := by decide +kernel
theorem dX12_holdsAny_27 : decode cX12_holdsAny 27 = .ok (.aload_n 0, 1) := by decide +kernel
theorem dX12_holdsAny_28 : decode cX12_holdsAny 28 = .ok (.getfield 71, 3) := by decide +kernel
theorem dX12_holdsAny_31 : decode cX12_holdsAny 31 = .ok (.iload_n 2, 1) := by decide +kernel
theorem dX12_holdsAny_32 : decode cX12_holdsAny 32 = .ok (.iaload, 1) := by decide +kernel
theorem dX12_holdsAny_33 : decode cX12_holdsAny 33 = .ok (.invokevirtual 258, 3) := by decide +kernel
theorem dX12_holdsAny_36 : decode cX12_holdsAny 36 = .ok (.iconst 1, 1) := by decide +kernel
theorem dX12_holdsAny_37 : decode cX12_holdsAny 37 = .ok (.if_icmp .ne 5, 3) := by decide +kernel
theorem dX12_holdsAny_40 : decode cX12_holdsAny 40 = .ok (.iconst 1, 1) := by decide +kernel
theorem dX12_holdsAny_41 : decode cX12_holdsAny 41 = .ok (.ireturn, 1) := by decide +kernel
theorem dX12_holdsAny_42 : decode cX12_holdsAny 42 = .ok (.iinc 2 1, 3) := by decide +kernel
theorem dX12_holdsAny_45 : decode cX12_holdsAny 45 = .ok (.goto (-43), 3) := by decide +kernel
theorem dX12_holdsAny_48 : decode cX12_holdsAny 48 = .ok (.iconst 0, 1) := by decide +kernel
theorem dX12_holdsAny_49 : decode cX12_holdsAny 49 = .ok (.ireturn, 1) := by decide +kernel
theorem dX12_isLetter_0 : decode cX12_isLetter 0 = .ok (.aload_n 0, 1) := by decide +kernel
theorem dX12_isLetter_1 : decode cX12_isLetter 1 = .ok (.invokevirtual 165, 3) := by decide +kernel
theorem dX12_isLetter_4 : decode cX12_isLetter 4 = .ok (.bipush 97, 2) := by decide +kernel
theorem dX12_isLetter_6 : decode cX12_isLetter 6 = .ok (.isub, 1) := by decide +kernel
theorem dX12_isLetter_7 : decode cX12_isLetter 7 = .ok (.iconst 0, 1) := by decide +kernel
theorem dX12_isLetter_8 : decode cX12_isLetter 8 = .ok (.bipush 15, 2) := by decide +kernel
theorem dX12_isLetter_10 : decode cX12_isLetter 10 = .ok (.invokestatic 117, 3) := by decide +kernel
theorem dX12_isLetter_13 : decode cX12_isLetter 13 = .ok (.ireturn, 1) := by decide +kernel
theorem dX12_readsAmount_0 : decode cX12_readsAmount 0 = .ok (.aload_n 0, 1) := by decide +kernel
theorem dX12_readsAmount_1 : decode cX12_readsAmount 1 = .ok (.getfield 159, 3) := by decide +kernel
theorem dX12_readsAmount_4 : decode cX12_readsAmount 4 = .ok (.istore_n 1, 1) := by decide +kernel
theorem dX12_readsAmount_5 : decode cX12_readsAmount 5 = .ok (.aload_n 0, 1) := by decide +kernel
theorem dX12_readsAmount_6 : decode cX12_readsAmount 6 = .ok (.invokevirtual 178, 3) := by decide +kernel
theorem dX12_readsAmount_9 : decode cX12_readsAmount 9 = .ok (.ifCond .ne 13, 3) := by decide +kernel
theorem dX12_readsAmount_12 : decode cX12_readsAmount 12 = .ok (.aload_n 0, 1) := by decide +kernel
theorem dX12_readsAmount_13 : decode cX12_readsAmount 13 = .ok (.iconst 1, 1) := by decide +kernel
theorem dX12_readsAmount_14 : decode cX12_readsAmount 14 = .ok (.aload_n 0, 1) := by decide +kernel
theorem dX12_readsAmount_15 : decode cX12_readsAmount 15 = .ok (.getfield 159, 3) := by decide +kernel
theorem dX12_readsAmount_18 : decode cX12_readsAmount 18 = .ok (.invokevirtual 172, 3) := by decide +kernel
theorem dX12_readsAmount_21 : decode cX12_readsAmount 21 = .ok (.ireturn, 1) := by decide +kernel
theorem dX12_readsAmount_22 : decode cX12_readsAmount 22 = .ok (.aload_n 0, 1) := by decide +kernel
theorem dX12_readsAmount_23 : decode cX12_readsAmount 23 = .ok (.iconst 0, 1) := by decide +kernel
theorem dX12_readsAmount_24 : decode cX12_readsAmount 24 = .ok (.putfield 175, 3) := by decide +kernel
theorem dX12_readsAmount_27 : decode cX12_readsAmount 27 = .ok (.aload_n 0, 1) := by decide +kernel
theorem dX12_readsAmount_28 : decode cX12_readsAmount 28 = .ok (.invokevirtual 178, 3) := by decide +kernel
theorem dX12_readsAmount_31 : decode cX12_readsAmount 31 = .ok (.ifCond .eq 55, 3) := by decide +kernel
theorem dX12_readsAmount_34 : decode cX12_readsAmount 34 = .ok (.aload_n 0, 1) := by decide +kernel
theorem dX12_readsAmount_35 : decode cX12_readsAmount 35 = .ok (.getfield 159, 3) := by decide +kernel
theorem dX12_readsAmount_38 : decode cX12_readsAmount 38 = .ok (.iload_n 1, 1) := by decide +kernel
theorem dX12_readsAmount_39 : decode cX12_readsAmount 39 = .ok (.iconst 2, 1) := by decide +kernel
theorem dX12_readsAmount_40 : decode cX12_readsAmount 40 = .ok (.iadd, 1) := by decide +kernel
theorem dX12_readsAmount_41 : decode cX12_readsAmount 41 = .ok (.if_icmp .ne 13, 3) := by decide +kernel
theorem dX12_readsAmount_44 : decode cX12_readsAmount 44 = .ok (.aload_n 0, 1) := by decide +kernel
theorem dX12_readsAmount_45 : decode cX12_readsAmount 45 = .ok (.iconst 2, 1) := by decide +kernel
theorem dX12_readsAmount_46 : decode cX12_readsAmount 46 = .ok (.aload_n 0, 1) := by decide +kernel
theorem dX12_readsAmount_47 : decode cX12_readsAmount 47 = .ok (.getfield 159, 3) := by decide +kernel
theorem dX12_readsAmount_50 : decode cX12_readsAmount 50 = .ok (.invokevirtual 172, 3) := by decide +kernel
theorem dX12_readsAmount_53 : decode cX12_readsAmount 53 = .ok (.ireturn, 1) := by decide +kernel
theorem dX12_readsAmount_54 : decode cX12_readsAmount 54 = .ok (.aload_n 0, 1) := by decide +kernel
theorem dX12_readsAmount_55 : decode cX12_readsAmount 55 = .ok (.bipush 10, 2) := by decide +kernel
theorem dX12_readsAmount_57 : decode cX12_readsAmount 57 = .ok (.aload_n 0, 1) := by decide +kernel
theorem dX12_readsAmount_58 : decode cX12_readsAmount 58 = .ok (.getfield 175, 3) := by decide +kernel
theorem dX12_readsAmount_61 : decode cX12_readsAmount 61 = .ok (.imul, 1) := by decide +kernel
theorem dX12_readsAmount_62 : decode cX12_readsAmount 62 = .ok (.aload_n 0, 1) := by decide +kernel
theorem dX12_readsAmount_63 : decode cX12_readsAmount 63 = .ok (.invokevirtual 165, 3) := by decide +kernel
theorem dX12_readsAmount_66 : decode cX12_readsAmount 66 = .ok (.iadd, 1) := by decide +kernel
theorem dX12_readsAmount_67 : decode cX12_readsAmount 67 = .ok (.bipush 48, 2) := by decide +kernel
theorem dX12_readsAmount_69 : decode cX12_readsAmount 69 = .ok (.isub, 1) := by decide +kernel
theorem dX12_readsAmount_70 : decode cX12_readsAmount 70 = .ok (.putfield 175, 3) := by decide +kernel
theorem dX12_readsAmount_73 : decode cX12_readsAmount 73 = .ok (.aload_n 0, 1) := by decide +kernel
theorem dX12_readsAmount_74 : decode cX12_readsAmount 74 = .ok (.aload_n 0, 1) := by decide +kernel
theorem dX12_readsAmount_75 : decode cX12_readsAmount 75 = .ok (.getfield 159, 3) := by decide +kernel
theorem dX12_readsAmount_78 : decode cX12_readsAmount 78 = .ok (.iconst 1, 1) := by decide +kernel
theorem dX12_readsAmount_79 : decode cX12_readsAmount 79 = .ok (.iadd, 1) := by decide +kernel
theorem dX12_readsAmount_80 : decode cX12_readsAmount 80 = .ok (.putfield 159, 3) := by decide +kernel
theorem dX12_readsAmount_83 : decode cX12_readsAmount 83 = .ok (.goto (-56), 3) := by decide +kernel
theorem dX12_readsAmount_86 : decode cX12_readsAmount 86 = .ok (.iconst 1, 1) := by decide +kernel
theorem dX12_readsAmount_87 : decode cX12_readsAmount 87 = .ok (.ireturn, 1) := by decide +kernel
theorem dX12_readsMeant_0 : decode cX12_readsMeant 0 = .ok (.aload_n 0, 1) := by decide +kernel
theorem dX12_readsMeant_1 : decode cX12_readsMeant 1 = .ok (.ldc_w 261, 3) := by decide +kernel
theorem dX12_readsMeant_4 : decode cX12_readsMeant 4 = .ok (.putfield 262, 3) := by decide +kernel
theorem dX12_readsMeant_7 : decode cX12_readsMeant 7 = .ok (.aload_n 0, 1) := by decide +kernel
theorem dX12_readsMeant_8 : decode cX12_readsMeant 8 = .ok (.invokevirtual 165, 3) := by decide +kernel
theorem dX12_readsMeant_11 : decode cX12_readsMeant 11 = .ok (.bipush 42, 2) := by decide +kernel
theorem dX12_readsMeant_13 : decode cX12_readsMeant 13 = .ok (.if_icmp .ne 15, 3) := by decide +kernel
theorem dX12_readsMeant_16 : decode cX12_readsMeant 16 = .ok (.aload_n 0, 1) := by decide +kernel
theorem dX12_readsMeant_17 : decode cX12_readsMeant 17 = .ok (.aload_n 0, 1) := by decide +kernel
theorem dX12_readsMeant_18 : decode cX12_readsMeant 18 = .ok (.getfield 159, 3) := by decide +kernel
theorem dX12_readsMeant_21 : decode cX12_readsMeant 21 = .ok (.iconst 1, 1) := by decide +kernel
theorem dX12_readsMeant_22 : decode cX12_readsMeant 22 = .ok (.iadd, 1) := by decide +kernel
theorem dX12_readsMeant_23 : decode cX12_readsMeant 23 = .ok (.putfield 159, 3) := by decide +kernel
theorem dX12_readsMeant_26 : decode cX12_readsMeant 26 = .ok (.iconst 1, 1) := by decide +kernel
theorem dX12_readsMeant_27 : decode cX12_readsMeant 27 = .ok (.ireturn, 1) := by decide +kernel
theorem dX12_readsMeant_28 : decode cX12_readsMeant 28 = .ok (.aload_n 0, 1) := by decide +kernel
theorem dX12_readsMeant_29 : decode cX12_readsMeant 29 = .ok (.iconst 0, 1) := by decide +kernel
theorem dX12_readsMeant_30 : decode cX12_readsMeant 30 = .ok (.putfield 262, 3) := by decide +kernel
theorem dX12_readsMeant_33 : decode cX12_readsMeant 33 = .ok (.aload_n 0, 1) := by decide +kernel
theorem dX12_readsMeant_34 : decode cX12_readsMeant 34 = .ok (.invokevirtual 265, 3) := by decide +kernel
theorem dX12_readsMeant_37 : decode cX12_readsMeant 37 = .ok (.ifCond .eq 62, 3) := by decide +kernel
theorem dX12_readsMeant_40 : decode cX12_readsMeant 40 = .ok (.aload_n 0, 1) := by decide +kernel
theorem dX12_readsMeant_41 : decode cX12_readsMeant 41 = .ok (.getfield 262, 3) := by decide +kernel
theorem dX12_readsMeant_44 : decode cX12_readsMeant 44 = .ok (.aload_n 0, 1) := by decide +kernel
theorem dX12_readsMeant_45 : decode cX12_readsMeant 45 = .ok (.invokevirtual 165, 3) := by decide +kernel
theorem dX12_readsMeant_48 : decode cX12_readsMeant 48 = .ok (.bipush 97, 2) := by decide +kernel
theorem dX12_readsMeant_50 : decode cX12_readsMeant 50 = .ok (.isub, 1) := by decide +kernel
theorem dX12_readsMeant_51 : decode cX12_readsMeant 51 = .ok (.invokestatic 125, 3) := by decide +kernel
theorem dX12_readsMeant_54 : decode cX12_readsMeant 54 = .ok (.ifCond .eq 14, 3) := by decide +kernel
theorem dX12_readsMeant_57 : decode cX12_readsMeant 57 = .ok (.aload_n 0, 1) := by decide +kernel
theorem dX12_readsMeant_58 : decode cX12_readsMeant 58 = .ok (.bipush 6, 2) := by decide +kernel
theorem dX12_readsMeant_60 : decode cX12_readsMeant 60 = .ok (.aload_n 0, 1) := by decide +kernel
theorem dX12_readsMeant_61 : decode cX12_readsMeant 61 = .ok (.getfield 159, 3) := by decide +kernel
theorem dX12_readsMeant_64 : decode cX12_readsMeant 64 = .ok (.invokevirtual 172, 3) := by decide +kernel
theorem dX12_readsMeant_67 : decode cX12_readsMeant 67 = .ok (.ireturn, 1) := by decide +kernel
theorem dX12_readsMeant_68 : decode cX12_readsMeant 68 = .ok (.aload_n 0, 1) := by decide +kernel
theorem dX12_readsMeant_69 : decode cX12_readsMeant 69 = .ok (.aload_n 0, 1) := by decide +kernel
theorem dX12_readsMeant_70 : decode cX12_readsMeant 70 = .ok (.getfield 262, 3) := by decide +kernel
theorem dX12_readsMeant_73 : decode cX12_readsMeant 73 = .ok (.iconst 1, 1) := by decide +kernel
theorem dX12_readsMeant_74 : decode cX12_readsMeant 74 = .ok (.aload_n 0, 1) := by decide +kernel
theorem dX12_readsMeant_75 : decode cX12_readsMeant 75 = .ok (.invokevirtual 165, 3) := by decide +kernel
theorem dX12_readsMeant_78 : decode cX12_readsMeant 78 = .ok (.bipush 97, 2) := by decide +kernel
theorem dX12_readsMeant_80 : decode cX12_readsMeant 80 = .ok (.isub, 1) := by decide +kernel
theorem dX12_readsMeant_81 : decode cX12_readsMeant 81 = .ok (.ishl, 1) := by decide +kernel
theorem dX12_readsMeant_82 : decode cX12_readsMeant 82 = .ok (.ior, 1) := by decide +kernel
theorem dX12_readsMeant_83 : decode cX12_readsMeant 83 = .ok (.putfield 262, 3) := by decide +kernel
theorem dX12_readsMeant_86 : decode cX12_readsMeant 86 = .ok (.aload_n 0, 1) := by decide +kernel
theorem dX12_readsMeant_87 : decode cX12_readsMeant 87 = .ok (.aload_n 0, 1) := by decide +kernel
theorem dX12_readsMeant_88 : decode cX12_readsMeant 88 = .ok (.getfield 159, 3) := by decide +kernel
theorem dX12_readsMeant_91 : decode cX12_readsMeant 91 = .ok (.iconst 1, 1) := by decide +kernel
theorem dX12_readsMeant_92 : decode cX12_readsMeant 92 = .ok (.iadd, 1) := by decide +kernel
theorem dX12_readsMeant_93 : decode cX12_readsMeant 93 = .ok (.putfield 159, 3) := by decide +kernel
theorem dX12_readsMeant_96 : decode cX12_readsMeant 96 = .ok (.goto (-63), 3) := by decide +kernel
theorem dX12_readsMeant_99 : decode cX12_readsMeant 99 = .ok (.iconst 1, 1) := by decide +kernel
theorem dX12_readsMeant_100 : decode cX12_readsMeant 100 = .ok (.ireturn, 1) := by decide +kernel
theorem dX12_readsDread_0 : decode cX12_readsDread 0 = .ok (.aload_n 0, 1) := by decide +kernel
theorem dX12_readsDread_1 : decode cX12_readsDread 1 = .ok (.invokevirtual 165, 3) := by decide +kernel
theorem dX12_readsDread_4 : decode cX12_readsDread 4 = .ok (.bipush 42, 2) := by decide +kernel
theorem dX12_readsDread_6 : decode cX12_readsDread 6 = .ok (.if_icmp .eq 20, 3) := by decide +kernel
theorem dX12_readsDread_9 : decode cX12_readsDread 9 = .ok (.aload_n 0, 1) := by decide +kernel
theorem dX12_readsDread_10 : decode cX12_readsDread 10 = .ok (.invokevirtual 265, 3) := by decide +kernel
theorem dX12_readsDread_13 : decode cX12_readsDread 13 = .ok (.ifCond .ne 13, 3) := by decide +kernel
theorem dX12_readsDread_16 : decode cX12_readsDread 16 = .ok (.aload_n 0, 1) := by decide +kernel
theorem dX12_readsDread_17 : decode cX12_readsDread 17 = .ok (.iconst 1, 1) := by decide +kernel
theorem dX12_readsDread_18 : decode cX12_readsDread 18 = .ok (.aload_n 0, 1) := by decide +kernel
theorem dX12_readsDread_19 : decode cX12_readsDread 19 = .ok (.getfield 159, 3) := by decide +kernel
theorem dX12_readsDread_22 : decode cX12_readsDread 22 = .ok (.invokevirtual 172, 3) := by decide +kernel
theorem dX12_readsDread_25 : decode cX12_readsDread 25 = .ok (.ireturn, 1) := by decide +kernel
theorem dX12_readsDread_26 : decode cX12_readsDread 26 = .ok (.aload_n 0, 1) := by decide +kernel
theorem dX12_readsDread_27 : decode cX12_readsDread 27 = .ok (.getfield 268, 3) := by decide +kernel
theorem dX12_readsDread_30 : decode cX12_readsDread 30 = .ok (.bipush 20, 2) := by decide +kernel
theorem dX12_readsDread_32 : decode cX12_readsDread 32 = .ok (.if_icmp .ne 13, 3) := by decide +kernel
theorem dX12_readsDread_35 : decode cX12_readsDread 35 = .ok (.aload_n 0, 1) := by decide +kernel
theorem dX12_readsDread_36 : decode cX12_readsDread 36 = .ok (.iconst 4, 1) := by decide +kernel
theorem dX12_readsDread_37 : decode cX12_readsDread 37 = .ok (.aload_n 0, 1) := by decide +kernel
theorem dX12_readsDread_38 : decode cX12_readsDread 38 = .ok (.getfield 159, 3) := by decide +kernel
theorem dX12_readsDread_41 : decode cX12_readsDread 41 = .ok (.invokevirtual 172, 3) := by decide +kernel
theorem dX12_readsDread_44 : decode cX12_readsDread 44 = .ok (.ireturn, 1) := by decide +kernel
theorem dX12_readsDread_45 : decode cX12_readsDread 45 = .ok (.aload_n 0, 1) := by decide +kernel
theorem dX12_readsDread_46 : decode cX12_readsDread 46 = .ok (.aload_n 0, 1) := by decide +kernel
theorem dX12_readsDread_47 : decode cX12_readsDread 47 = .ok (.getfield 268, 3) := by decide +kernel
theorem dX12_readsDread_50 : decode cX12_readsDread 50 = .ok (.iconst 1, 1) := by decide +kernel
theorem dX12_readsDread_51 : decode cX12_readsDread 51 = .ok (.iadd, 1) := by decide +kernel
theorem dX12_readsDread_52 : decode cX12_readsDread 52 = .ok (.putfield 268, 3) := by decide +kernel
theorem dX12_readsDread_55 : decode cX12_readsDread 55 = .ok (.aload_n 0, 1) := by decide +kernel
theorem dX12_readsDread_56 : decode cX12_readsDread 56 = .ok (.invokevirtual 271, 3) := by decide +kernel
theorem dX12_readsDread_59 : decode cX12_readsDread 59 = .ok (.ifCond .ne 5, 3) := by decide +kernel
theorem dX12_readsDread_62 : decode cX12_readsDread 62 = .ok (.iconst 0, 1) := by decide +kernel
theorem dX12_readsDread_63 : decode cX12_readsDread 63 = .ok (.ireturn, 1) := by decide +kernel
theorem dX12_readsDread_64 : decode cX12_readsDread 64 = .ok (.aload_n 0, 1) := by decide +kernel
theorem dX12_readsDread_65 : decode cX12_readsDread 65 = .ok (.invokevirtual 165, 3) := by decide +kernel
theorem dX12_readsDread_68 : decode cX12_readsDread 68 = .ok (.istore_n 2, 1) := by decide +kernel
theorem dX12_readsDread_69 : decode cX12_readsDread 69 = .ok (.iload_n 2, 1) := by decide +kernel
theorem dX12_readsDread_70 : decode cX12_readsDread 70 = .ok (.bipush 61, 2) := by decide +kernel
theorem dX12_readsDread_72 : decode cX12_readsDread 72 = .ok (.if_icmp .eq 25, 3) := by decide +kernel
theorem dX12_readsDread_75 : decode cX12_readsDread 75 = .ok (.iload_n 2, 1) := by decide +kernel
theorem dX12_readsDread_76 : decode cX12_readsDread 76 = .ok (.bipush 43, 2) := by decide +kernel
theorem dX12_readsDread_78 : decode cX12_readsDread 78 = .ok (.if_icmp .eq 19, 3) := by decide +kernel
theorem dX12_readsDread_81 : decode cX12_readsDread 81 = .ok (.iload_n 2, 1) := by decide +kernel
theorem dX12_readsDread_82 : decode cX12_readsDread 82 = .ok (.bipush 45, 2) := by decide +kernel
theorem dX12_readsDread_84 : decode cX12_readsDread 84 = .ok (.if_icmp .eq 13, 3) := by decide +kernel
theorem dX12_readsDread_87 : decode cX12_readsDread 87 = .ok (.aload_n 0, 1) := by decide +kernel
theorem dX12_readsDread_88 : decode cX12_readsDread 88 = .ok (.iconst 1, 1) := by decide +kernel
theorem dX12_readsDread_89 : decode cX12_readsDread 89 = .ok (.aload_n 0, 1) := by decide +kernel
theorem dX12_readsDread_90 : decode cX12_readsDread 90 = .ok (.getfield 159, 3) := by decide +kernel
theorem dX12_readsDread_93 : decode cX12_readsDread 93 = .ok (.invokevirtual 172, 3) := by decide +kernel
theorem dX12_readsDread_96 : decode cX12_readsDread 96 = .ok (.ireturn, 1) := by decide +kernel
theorem dX12_readsDread_97 : decode cX12_readsDread 97 = .ok (.aload_n 0, 1) := by decide +kernel
theorem dX12_readsDread_98 : decode cX12_readsDread 98 = .ok (.aload_n 0, 1) := by decide +kernel
theorem dX12_readsDread_99 : decode cX12_readsDread 99 = .ok (.getfield 159, 3) := by decide +kernel
theorem dX12_readsDread_102 : decode cX12_readsDread 102 = .ok (.iconst 1, 1) := by decide +kernel
theorem dX12_readsDread_103 : decode cX12_readsDread 103 = .ok (.iadd, 1) := by decide +kernel
theorem dX12_readsDread_104 : decode cX12_readsDread 104 = .ok (.putfield 159, 3) := by decide +kernel
theorem dX12_readsDread_107 : decode cX12_readsDread 107 = .ok (.aload_n 0, 1) := by decide +kernel
theorem dX12_readsDread_108 : decode cX12_readsDread 108 = .ok (.invokevirtual 274, 3) := by decide +kernel
theorem dX12_readsDread_111 : decode cX12_readsDread 111 = .ok (.ifCond .ne 5, 3) := by decide +kernel
theorem dX12_readsDread_114 : decode cX12_readsDread 114 = .ok (.iconst 0, 1) := by decide +kernel
theorem dX12_readsDread_115 : decode cX12_readsDread 115 = .ok (.ireturn, 1) := by decide +kernel
theorem dX12_readsDread_116 : decode cX12_readsDread 116 = .ok (.iconst 0, 1) := by decide +kernel
theorem dX12_readsDread_117 : decode cX12_readsDread 117 = .ok (.istore_n 3, 1) := by decide +kernel
theorem dX12_readsDread_118 : decode cX12_readsDread 118 = .ok (.iload_n 3, 1) := by decide +kernel
theorem dX12_readsDread_119 : decode cX12_readsDread 119 = .ok (.bipush 16, 2) := by decide +kernel
theorem dX12_readsDread_121 : decode cX12_readsDread 121 = .ok (.if_icmp .ge 82, 3) := by decide +kernel
theorem dX12_readsDread_124 : decode cX12_readsDread 124 = .ok (.aload_n 0, 1) := by decide +kernel
theorem dX12_readsDread_125 : decode cX12_readsDread 125 = .ok (.getfield 262, 3) := by decide +kernel
theorem dX12_readsDread_128 : decode cX12_readsDread 128 = .ok (.iload_n 3, 1) := by decide +kernel
theorem dX12_readsDread_129 : decode cX12_readsDread 129 = .ok (.invokestatic 125, 3) := by decide +kernel
theorem dX12_readsDread_132 : decode cX12_readsDread 132 = .ok (.ifCond .ne 6, 3) := by decide +kernel
theorem dX12_readsDread_135 : decode cX12_readsDread 135 = .ok (.goto 62, 3) := by decide +kernel
theorem dX12_readsDread_138 : decode cX12_readsDread 138 = .ok (.iconst 0, 1) := by decide +kernel
theorem dX12_readsDread_139 : decode cX12_readsDread 139 = .ok (.bipush 16, 2) := by decide +kernel
theorem dX12_readsDread_141 : decode cX12_readsDread 141 = .ok (.iload_n 1, 1) := by decide +kernel
theorem dX12_readsDread_142 : decode cX12_readsDread 142 = .ok (.imul, 1) := by decide +kernel
theorem dX12_readsDread_143 : decode cX12_readsDread 143 = .ok (.iadd, 1) := by decide +kernel
theorem dX12_readsDread_144 : decode cX12_readsDread 144 = .ok (.iload_n 3, 1) := by decide +kernel
theorem dX12_readsDread_145 : decode cX12_readsDread 145 = .ok (.iadd, 1) := by decide +kernel
theorem dX12_readsDread_146 : decode cX12_readsDread 146 = .ok (.istore 4, 2) := by decide +kernel
theorem dX12_readsDread_148 : decode cX12_readsDread 148 = .ok (.aload_n 0, 1) := by decide +kernel
theorem dX12_readsDread_149 : decode cX12_readsDread 149 = .ok (.getfield 7, 3) := by decide +kernel
theorem dX12_readsDread_152 : decode cX12_readsDread 152 = .ok (.iload 4, 2) := by decide +kernel
theorem dX12_readsDread_154 : decode cX12_readsDread 154 = .ok (.iload_n 2, 1) := by decide +kernel
theorem dX12_readsDread_155 : decode cX12_readsDread 155 = .ok (.bipush 61, 2) := by decide +kernel
theorem dX12_readsDread_157 : decode cX12_readsDread 157 = .ok (.if_icmp .ne 10, 3) := by decide +kernel
theorem dX12_readsDread_160 : decode cX12_readsDread 160 = .ok (.aload_n 0, 1) := by decide +kernel
theorem dX12_readsDread_161 : decode cX12_readsDread 161 = .ok (.getfield 175, 3) := by decide +kernel
theorem dX12_readsDread_164 : decode cX12_readsDread 164 = .ok (.goto 32, 3) := by decide +kernel
theorem dX12_readsDread_167 : decode cX12_readsDread 167 = .ok (.aload_n 0, 1) := by decide +kernel
theorem dX12_readsDread_168 : decode cX12_readsDread 168 = .ok (.getfield 7, 3) := by decide +kernel
theorem dX12_readsDread_171 : decode cX12_readsDread 171 = .ok (.iload 4, 2) := by decide +kernel
theorem dX12_readsDread_173 : decode cX12_readsDread 173 = .ok (.iaload, 1) := by decide +kernel
theorem dX12_readsDread_174 : decode cX12_readsDread 174 = .ok (.iload_n 2, 1) := by decide +kernel
theorem dX12_readsDread_175 : decode cX12_readsDread 175 = .ok (.bipush 43, 2) := by decide +kernel
theorem dX12_readsDread_177 : decode cX12_readsDread 177 = .ok (.if_icmp .ne 10, 3) := by decide +kernel
theorem dX12_readsDread_180 : decode cX12_readsDread 180 = .ok (.aload_n 0, 1) := by decide +kernel
theorem dX12_readsDread_181 : decode cX12_readsDread 181 = .ok (.getfield 175, 3) := by decide +kernel
theorem dX12_readsDread_184 : decode cX12_readsDread 184 = .ok (.goto 8, 3) := by decide +kernel
theorem dX12_readsDread_187 : decode cX12_readsDread 187 = .ok (.aload_n 0, 1) := by decide +kernel
theorem dX12_readsDread_188 : decode cX12_readsDread 188 = .ok (.getfield 175, 3) := by decide +kernel
theorem dX12_readsDread_191 : decode cX12_readsDread 191 = .ok (.ineg, 1) := by decide +kernel
theorem dX12_readsDread_192 : decode cX12_readsDread 192 = .ok (.iadd, 1) := by decide +kernel
theorem dX12_readsDread_193 : decode cX12_readsDread 193 = .ok (.invokestatic 277, 3) := by decide +kernel
theorem dX12_readsDread_196 : decode cX12_readsDread 196 = .ok (.iastore, 1) := by decide +kernel
theorem dX12_readsDread_197 : decode cX12_readsDread 197 = .ok (.iinc 3 1, 3) := by decide +kernel
theorem dX12_readsDread_200 : decode cX12_readsDread 200 = .ok (.goto (-82), 3) := by decide +kernel
theorem dX12_readsDread_203 : decode cX12_readsDread 203 = .ok (.iconst 1, 1) := by decide +kernel
theorem dX12_readsDread_204 : decode cX12_readsDread 204 = .ok (.ireturn, 1) := by decide +kernel
theorem dX12_dreads_0 : decode cX12_dreads 0 = .ok (.iload_n 1, 1) := by decide +kernel
theorem dX12_dreads_1 : decode cX12_dreads 1 = .ok (.iconst 0, 1) := by decide +kernel
theorem dX12_dreads_2 : decode cX12_dreads 2 = .ok (.bipush 11, 2) := by decide +kernel
theorem dX12_dreads_4 : decode cX12_dreads 4 = .ok (.invokestatic 117, 3) := by decide +kernel
theorem dX12_dreads_7 : decode cX12_dreads 7 = .ok (.ifCond .eq 21, 3) := by decide +kernel
theorem dX12_dreads_10 : decode cX12_dreads 10 = .ok (.iload_n 2, 1) := by decide +kernel
theorem dX12_dreads_11 : decode cX12_dreads 11 = .ok (.iconst 1, 1) := by decide +kernel
theorem dX12_dreads_12 : decode cX12_dreads 12 = .ok (.bipush 120, 2) := by decide +kernel
theorem dX12_dreads_14 : decode cX12_dreads 14 = .ok (.invokestatic 117, 3) := by decide +kernel
theorem dX12_dreads_17 : decode cX12_dreads 17 = .ok (.ifCond .eq 11, 3) := by decide +kernel
theorem dX12_dreads_20 : decode cX12_dreads 20 = .ok (.iload_n 2, 1) := by decide +kernel
theorem dX12_dreads_21 : decode cX12_dreads 21 = .ok (.aload_n 0, 1) := by decide +kernel
theorem dX12_dreads_22 : decode cX12_dreads 22 = .ok (.getfield 152, 3) := by decide +kernel
theorem dX12_dreads_25 : decode cX12_dreads 25 = .ok (.if_icmp .le 5, 3) := by decide +kernel
theorem dX12_dreads_28 : decode cX12_dreads 28 = .ok (.iconst (-1), 1) := by decide +kernel
theorem dX12_dreads_29 : decode cX12_dreads 29 = .ok (.ireturn, 1) := by decide +kernel
theorem dX12_dreads_30 : decode cX12_dreads 30 = .ok (.aload_n 0, 1) := by decide +kernel
theorem dX12_dreads_31 : decode cX12_dreads 31 = .ok (.iload_n 2, 1) := by decide +kernel
theorem dX12_dreads_32 : decode cX12_dreads 32 = .ok (.invokevirtual 242, 3) := by decide +kernel
theorem dX12_dreads_35 : decode cX12_dreads 35 = .ok (.aload_n 0, 1) := by decide +kernel
theorem dX12_dreads_36 : decode cX12_dreads 36 = .ok (.iconst 0, 1) := by decide +kernel
theorem dX12_dreads_37 : decode cX12_dreads 37 = .ok (.putfield 268, 3) := by decide +kernel
theorem dX12_dreads_40 : decode cX12_dreads 40 = .ok (.aload_n 0, 1) := by decide +kernel
theorem dX12_dreads_41 : decode cX12_dreads 41 = .ok (.getfield 7, 3) := by decide +kernel
theorem dX12_dreads_44 : decode cX12_dreads 44 = .ok (.aload_n 0, 1) := by decide +kernel
theorem dX12_dreads_45 : decode cX12_dreads 45 = .ok (.getfield 13, 3) := by decide +kernel
theorem dX12_dreads_48 : decode cX12_dreads 48 = .ok (.invokestatic 280, 3) := by decide +kernel
theorem dX12_dreads_51 : decode cX12_dreads 51 = .ok (.aload_n 0, 1) := by decide +kernel
theorem dX12_dreads_52 : decode cX12_dreads 52 = .ok (.iload_n 1, 1) := by decide +kernel
theorem dX12_dreads_53 : decode cX12_dreads 53 = .ok (.invokevirtual 284, 3) := by decide +kernel
theorem dX12_dreads_56 : decode cX12_dreads 56 = .ok (.istore_n 3, 1) := by decide +kernel
theorem dX12_dreads_57 : decode cX12_dreads 57 = .ok (.iload_n 3, 1) := by decide +kernel
theorem dX12_dreads_58 : decode cX12_dreads 58 = .ok (.ifCond .eq 40, 3) := by decide +kernel
theorem dX12_dreads_61 : decode cX12_dreads 61 = .ok (.aload_n 0, 1) := by decide +kernel
theorem dX12_dreads_62 : decode cX12_dreads 62 = .ok (.getfield 159, 3) := by decide +kernel
theorem dX12_dreads_65 : decode cX12_dreads 65 = .ok (.aload_n 0, 1) := by decide +kernel
theorem dX12_dreads_66 : decode cX12_dreads 66 = .ok (.getfield 162, 3) := by decide +kernel
theorem dX12_dreads_69 : decode cX12_dreads 69 = .ok (.if_icmp .ge 29, 3) := by decide +kernel
theorem dX12_dreads_72 : decode cX12_dreads 72 = .ok (.aload_n 0, 1) := by decide +kernel
theorem dX12_dreads_73 : decode cX12_dreads 73 = .ok (.bipush 59, 2) := by decide +kernel
theorem dX12_dreads_75 : decode cX12_dreads 75 = .ok (.invokevirtual 248, 3) := by decide +kernel
theorem dX12_dreads_78 : decode cX12_dreads 78 = .ok (.ifCond .eq 15, 3) := by decide +kernel
theorem dX12_dreads_81 : decode cX12_dreads 81 = .ok (.aload_n 0, 1) := by decide +kernel
theorem dX12_dreads_82 : decode cX12_dreads 82 = .ok (.iload_n 1, 1) := by decide +kernel
theorem dX12_dreads_83 : decode cX12_dreads 83 = .ok (.invokevirtual 284, 3) := by decide +kernel
theorem dX12_dreads_86 : decode cX12_dreads 86 = .ok (.ifCond .eq 7, 3) := by decide +kernel
theorem dX12_dreads_89 : decode cX12_dreads 89 = .ok (.iconst 1, 1) := by decide +kernel
theorem dX12_dreads_90 : decode cX12_dreads 90 = .ok (.goto 4, 3) := by decide +kernel
theorem dX12_dreads_93 : decode cX12_dreads 93 = .ok (.iconst 0, 1) := by decide +kernel
theorem dX12_dreads_94 : decode cX12_dreads 94 = .ok (.istore_n 3, 1) := by decide +kernel
theorem dX12_dreads_95 : decode cX12_dreads 95 = .ok (.goto (-38), 3) := by decide +kernel
theorem dX12_dreads_98 : decode cX12_dreads 98 = .ok (.aload_n 0, 1) := by decide +kernel
theorem dX12_dreads_99 : decode cX12_dreads 99 = .ok (.iconst 0, 1) := by decide +kernel
theorem dX12_dreads_100 : decode cX12_dreads 100 = .ok (.putfield 152, 3) := by decide +kernel
theorem dX12_dreads_103 : decode cX12_dreads 103 = .ok (.iload_n 3, 1) := by decide +kernel
theorem dX12_dreads_104 : decode cX12_dreads 104 = .ok (.ifCond .ne 19, 3) := by decide +kernel
theorem dX12_dreads_107 : decode cX12_dreads 107 = .ok (.aload_n 0, 1) := by decide +kernel
theorem dX12_dreads_108 : decode cX12_dreads 108 = .ok (.getfield 13, 3) := by decide +kernel
theorem dX12_dreads_111 : decode cX12_dreads 111 = .ok (.aload_n 0, 1) := by decide +kernel
theorem dX12_dreads_112 : decode cX12_dreads 112 = .ok (.getfield 7, 3) := by decide +kernel
theorem dX12_dreads_115 : decode cX12_dreads 115 = .ok (.invokestatic 280, 3) := by decide +kernel
theorem dX12_dreads_118 : decode cX12_dreads 118 = .ok (.aload_n 0, 1) := by decide +kernel
theorem dX12_dreads_119 : decode cX12_dreads 119 = .ok (.getfield 169, 3) := by decide +kernel
theorem dX12_dreads_122 : decode cX12_dreads 122 = .ok (.ireturn, 1) := by decide +kernel
theorem dX12_dreads_123 : decode cX12_dreads 123 = .ok (.aload_n 0, 1) := by decide +kernel
theorem dX12_dreads_124 : decode cX12_dreads 124 = .ok (.aload_n 0, 1) := by decide +kernel
theorem dX12_dreads_125 : decode cX12_dreads 125 = .ok (.getfield 121, 3) := by decide +kernel
theorem dX12_dreads_128 : decode cX12_dreads 128 = .ok (.iconst 1, 1) := by decide +kernel
theorem dX12_dreads_129 : decode cX12_dreads 129 = .ok (.iload_n 1, 1) := by decide +kernel
theorem dX12_dreads_130 : decode cX12_dreads 130 = .ok (.ishl, 1) := by decide +kernel
theorem dX12_dreads_131 : decode cX12_dreads 131 = .ok (.ior, 1) := by decide +kernel
theorem dX12_dreads_132 : decode cX12_dreads 132 = .ok (.putfield 121, 3) := by decide +kernel
theorem dX12_dreads_135 : decode cX12_dreads 135 = .ok (.aload_n 0, 1) := by decide +kernel
theorem dX12_dreads_136 : decode cX12_dreads 136 = .ok (.getfield 268, 3) := by decide +kernel
theorem dX12_dreads_139 : decode cX12_dreads 139 = .ok (.ireturn, 1) := by decide +kernel
theorem dX12_readsOne_0 : decode cX12_readsOne 0 = .ok (.aload_n 0, 1) := by decide +kernel
theorem dX12_readsOne_1 : decode cX12_readsOne 1 = .ok (.getfield 159, 3) := by decide +kernel
theorem dX12_readsOne_4 : decode cX12_readsOne 4 = .ok (.istore_n 1, 1) := by decide +kernel
theorem dX12_readsOne_5 : decode cX12_readsOne 5 = .ok (.aload_n 0, 1) := by decide +kernel
theorem dX12_readsOne_6 : decode cX12_readsOne 6 = .ok (.invokevirtual 274, 3) := by decide +kernel
theorem dX12_readsOne_9 : decode cX12_readsOne 9 = .ok (.ifCond .ne 5, 3) := by decide +kernel
theorem dX12_readsOne_12 : decode cX12_readsOne 12 = .ok (.iconst 0, 1) := by decide +kernel
theorem dX12_readsOne_13 : decode cX12_readsOne 13 = .ok (.ireturn, 1) := by decide +kernel
theorem dX12_readsOne_14 : decode cX12_readsOne 14 = .ok (.aload_n 0, 1) := by decide +kernel
theorem dX12_readsOne_15 : decode cX12_readsOne 15 = .ok (.aload_n 0, 1) := by decide +kernel
theorem dX12_readsOne_16 : decode cX12_readsOne 16 = .ok (.getfield 175, 3) := by decide +kernel
theorem dX12_readsOne_19 : decode cX12_readsOne 19 = .ok (.invokevirtual 149, 3) := by decide +kernel
theorem dX12_readsOne_22 : decode cX12_readsOne 22 = .ok (.ifCond .ne 13, 3) := by decide +kernel
theorem dX12_readsOne_25 : decode cX12_readsOne 25 = .ok (.aload_n 0, 1) := by decide +kernel
theorem dX12_readsOne_26 : decode cX12_readsOne 26 = .ok (.bipush 7, 2) := by decide +kernel
theorem dX12_readsOne_28 : decode cX12_readsOne 28 = .ok (.iload_n 1, 1) := by decide +kernel
theorem dX12_readsOne_29 : decode cX12_readsOne 29 = .ok (.invokevirtual 172, 3) := by decide +kernel
theorem dX12_readsOne_32 : decode cX12_readsOne 32 = .ok (.ifCond .eq 7, 3) := by decide +kernel
theorem dX12_readsOne_35 : decode cX12_readsOne 35 = .ok (.iconst 1, 1) := by decide +kernel
theorem dX12_readsOne_36 : decode cX12_readsOne 36 = .ok (.goto 4, 3) := by decide +kernel
theorem dX12_readsOne_39 : decode cX12_readsOne 39 = .ok (.iconst 0, 1) := by decide +kernel
theorem dX12_readsOne_40 : decode cX12_readsOne 40 = .ok (.ireturn, 1) := by decide +kernel
theorem dX12_readsTwo_0 : decode cX12_readsTwo 0 = .ok (.aload_n 0, 1) := by decide +kernel
theorem dX12_readsTwo_1 : decode cX12_readsTwo 1 = .ok (.invokevirtual 287, 3) := by decide +kernel
theorem dX12_readsTwo_4 : decode cX12_readsTwo 4 = .ok (.ifCond .ne 5, 3) := by decide +kernel
theorem dX12_readsTwo_7 : decode cX12_readsTwo 7 = .ok (.iconst 0, 1) := by decide +kernel
theorem dX12_readsTwo_8 : decode cX12_readsTwo 8 = .ok (.ireturn, 1) := by decide +kernel
theorem dX12_readsTwo_9 : decode cX12_readsTwo 9 = .ok (.aload_n 0, 1) := by decide +kernel
theorem dX12_readsTwo_10 : decode cX12_readsTwo 10 = .ok (.getfield 175, 3) := by decide +kernel
theorem dX12_readsTwo_13 : decode cX12_readsTwo 13 = .ok (.istore_n 1, 1) := by decide +kernel
theorem dX12_readsTwo_14 : decode cX12_readsTwo 14 = .ok (.aload_n 0, 1) := by decide +kernel
theorem dX12_readsTwo_15 : decode cX12_readsTwo 15 = .ok (.invokevirtual 165, 3) := by decide +kernel
theorem dX12_readsTwo_18 : decode cX12_readsTwo 18 = .ok (.bipush 38, 2) := by decide +kernel
theorem dX12_readsTwo_20 : decode cX12_readsTwo 20 = .ok (.if_icmp .ne 7, 3) := by decide +kernel
theorem dX12_readsTwo_23 : decode cX12_readsTwo 23 = .ok (.iconst 1, 1) := by decide +kernel
theorem dX12_readsTwo_24 : decode cX12_readsTwo 24 = .ok (.goto 4, 3) := by decide +kernel
theorem dX12_readsTwo_27 : decode cX12_readsTwo 27 = .ok (.iconst 0, 1) := by decide +kernel
theorem dX12_readsTwo_28 : decode cX12_readsTwo 28 = .ok (.istore_n 2, 1) := by decide +kernel
theorem dX12_readsTwo_29 : decode cX12_readsTwo 29 = .ok (.iload_n 2, 1) := by decide +kernel
theorem dX12_readsTwo_30 : decode cX12_readsTwo 30 = .ok (.ifCond .ne 22, 3) := by decide +kernel
theorem dX12_readsTwo_33 : decode cX12_readsTwo 33 = .ok (.aload_n 0, 1) := by decide +kernel
theorem dX12_readsTwo_34 : decode cX12_readsTwo 34 = .ok (.invokevirtual 165, 3) := by decide +kernel
theorem dX12_readsTwo_37 : decode cX12_readsTwo 37 = .ok (.bipush 47, 2) := by decide +kernel
theorem dX12_readsTwo_39 : decode cX12_readsTwo 39 = .ok (.if_icmp .eq 13, 3) := by decide +kernel
theorem dX12_readsTwo_42 : decode cX12_readsTwo 42 = .ok (.aload_n 0, 1) := by decide +kernel
theorem dX12_readsTwo_43 : decode cX12_readsTwo 43 = .ok (.iconst 1, 1) := by decide +kernel
theorem dX12_readsTwo_44 : decode cX12_readsTwo 44 = .ok (.aload_n 0, 1) := by decide +kernel
theorem dX12_readsTwo_45 : decode cX12_readsTwo 45 = .ok (.getfield 159, 3) := by decide +kernel
theorem dX12_readsTwo_48 : decode cX12_readsTwo 48 = .ok (.invokevirtual 172, 3) := by decide +kernel
theorem dX12_readsTwo_51 : decode cX12_readsTwo 51 = .ok (.ireturn, 1) := by decide +kernel
theorem dX12_readsTwo_52 : decode cX12_readsTwo 52 = .ok (.aload_n 0, 1) := by decide +kernel
theorem dX12_readsTwo_53 : decode cX12_readsTwo 53 = .ok (.aload_n 0, 1) := by decide +kernel
theorem dX12_readsTwo_54 : decode cX12_readsTwo 54 = .ok (.getfield 159, 3) := by decide +kernel
theorem dX12_readsTwo_57 : decode cX12_readsTwo 57 = .ok (.iconst 1, 1) := by decide +kernel
theorem dX12_readsTwo_58 : decode cX12_readsTwo 58 = .ok (.iadd, 1) := by decide +kernel
theorem dX12_readsTwo_59 : decode cX12_readsTwo 59 = .ok (.putfield 159, 3) := by decide +kernel
theorem dX12_readsTwo_62 : decode cX12_readsTwo 62 = .ok (.aload_n 0, 1) := by decide +kernel
theorem dX12_readsTwo_63 : decode cX12_readsTwo 63 = .ok (.getfield 159, 3) := by decide +kernel
theorem dX12_readsTwo_66 : decode cX12_readsTwo 66 = .ok (.istore_n 3, 1) := by decide +kernel
theorem dX12_readsTwo_67 : decode cX12_readsTwo 67 = .ok (.aload_n 0, 1) := by decide +kernel
theorem dX12_readsTwo_68 : decode cX12_readsTwo 68 = .ok (.invokevirtual 287, 3) := by decide +kernel
theorem dX12_readsTwo_71 : decode cX12_readsTwo 71 = .ok (.ifCond .ne 5, 3) := by decide +kernel
theorem dX12_readsTwo_74 : decode cX12_readsTwo 74 = .ok (.iconst 0, 1) := by decide +kernel
theorem dX12_readsTwo_75 : decode cX12_readsTwo 75 = .ok (.ireturn, 1) := by decide +kernel
theorem dX12_readsTwo_76 : decode cX12_readsTwo 76 = .ok (.aload_n 0, 1) := by decide +kernel
theorem dX12_readsTwo_77 : decode cX12_readsTwo 77 = .ok (.getfield 175, 3) := by decide +kernel
theorem dX12_readsTwo_80 : decode cX12_readsTwo 80 = .ok (.istore 4, 2) := by decide +kernel
theorem dX12_readsTwo_82 : decode cX12_readsTwo 82 = .ok (.iload_n 1, 1) := by decide +kernel
theorem dX12_readsTwo_83 : decode cX12_readsTwo 83 = .ok (.iload 4, 2) := by decide +kernel
theorem dX12_readsTwo_85 : decode cX12_readsTwo 85 = .ok (.if_icmp .ne 11, 3) := by decide +kernel
theorem dX12_readsTwo_88 : decode cX12_readsTwo 88 = .ok (.aload_n 0, 1) := by decide +kernel
theorem dX12_readsTwo_89 : decode cX12_readsTwo 89 = .ok (.bipush 6, 2) := by decide +kernel
theorem dX12_readsTwo_91 : decode cX12_readsTwo 91 = .ok (.iload_n 3, 1) := by decide +kernel
theorem dX12_readsTwo_92 : decode cX12_readsTwo 92 = .ok (.invokevirtual 172, 3) := by decide +kernel
theorem dX12_readsTwo_95 : decode cX12_readsTwo 95 = .ok (.ireturn, 1) := by decide +kernel
theorem dX12_readsTwo_96 : decode cX12_readsTwo 96 = .ok (.aload_n 0, 1) := by decide +kernel
theorem dX12_readsTwo_97 : decode cX12_readsTwo 97 = .ok (.getfield 19, 3) := by decide +kernel
theorem dX12_readsTwo_100 : decode cX12_readsTwo 100 = .ok (.iload_n 1, 1) := by decide +kernel
theorem dX12_readsTwo_101 : decode cX12_readsTwo 101 = .ok (.iload_n 2, 1) := by decide +kernel
theorem dX12_readsTwo_102 : decode cX12_readsTwo 102 = .ok (.ifCond .eq 17, 3) := by decide +kernel
theorem dX12_readsTwo_105 : decode cX12_readsTwo 105 = .ok (.aload_n 0, 1) := by decide +kernel
theorem dX12_readsTwo_106 : decode cX12_readsTwo 106 = .ok (.getfield 19, 3) := by decide +kernel
theorem dX12_readsTwo_109 : decode cX12_readsTwo 109 = .ok (.iload_n 1, 1) := by decide +kernel
theorem dX12_readsTwo_110 : decode cX12_readsTwo 110 = .ok (.iaload, 1) := by decide +kernel
theorem dX12_readsTwo_111 : decode cX12_readsTwo 111 = .ok (.iconst 1, 1) := by decide +kernel
theorem dX12_readsTwo_112 : decode cX12_readsTwo 112 = .ok (.iload 4, 2) := by decide +kernel
theorem dX12_readsTwo_114 : decode cX12_readsTwo 114 = .ok (.ishl, 1) := by decide +kernel
theorem dX12_readsTwo_115 : decode cX12_readsTwo 115 = .ok (.ior, 1) := by decide +kernel
theorem dX12_readsTwo_116 : decode cX12_readsTwo 116 = .ok (.goto 16, 3) := by decide +kernel
theorem dX12_readsTwo_119 : decode cX12_readsTwo 119 = .ok (.aload_n 0, 1) := by decide +kernel
theorem dX12_readsTwo_120 : decode cX12_readsTwo 120 = .ok (.getfield 19, 3) := by decide +kernel
theorem dX12_readsTwo_123 : decode cX12_readsTwo 123 = .ok (.iload_n 1, 1) := by decide +kernel
theorem dX12_readsTwo_124 : decode cX12_readsTwo 124 = .ok (.iaload, 1) := by decide +kernel
theorem dX12_readsTwo_125 : decode cX12_readsTwo 125 = .ok (.iconst 1, 1) := by decide +kernel
theorem dX12_readsTwo_126 : decode cX12_readsTwo 126 = .ok (.iload 4, 2) := by decide +kernel
theorem dX12_readsTwo_128 : decode cX12_readsTwo 128 = .ok (.ishl, 1) := by decide +kernel
theorem dX12_readsTwo_129 : decode cX12_readsTwo 129 = .ok (.iconst (-1), 1) := by decide +kernel
theorem dX12_readsTwo_130 : decode cX12_readsTwo 130 = .ok (.ixor, 1) := by decide +kernel
theorem dX12_readsTwo_131 : decode cX12_readsTwo 131 = .ok (.iand, 1) := by decide +kernel
theorem dX12_readsTwo_132 : decode cX12_readsTwo 132 = .ok (.iastore, 1) := by decide +kernel
theorem dX12_readsTwo_133 : decode cX12_readsTwo 133 = .ok (.aload_n 0, 1) := by decide +kernel
theorem dX12_readsTwo_134 : decode cX12_readsTwo 134 = .ok (.getfield 19, 3) := by decide +kernel
theorem dX12_readsTwo_137 : decode cX12_readsTwo 137 = .ok (.iload 4, 2) := by decide +kernel
theorem dX12_readsTwo_139 : decode cX12_readsTwo 139 = .ok (.iload_n 2, 1) := by decide +kernel
theorem dX12_readsTwo_140 : decode cX12_readsTwo 140 = .ok (.ifCond .eq 17, 3) := by decide +kernel
theorem dX12_readsTwo_143 : decode cX12_readsTwo 143 = .ok (.aload_n 0, 1) := by decide +kernel
theorem dX12_readsTwo_144 : decode cX12_readsTwo 144 = .ok (.getfield 19, 3) := by decide +kernel
theorem dX12_readsTwo_147 : decode cX12_readsTwo 147 = .ok (.iload 4, 2) := by decide +kernel
theorem dX12_readsTwo_149 : decode cX12_readsTwo 149 = .ok (.iaload, 1) := by decide +kernel
theorem dX12_readsTwo_150 : decode cX12_readsTwo 150 = .ok (.iconst 1, 1) := by decide +kernel
theorem dX12_readsTwo_151 : decode cX12_readsTwo 151 = .ok (.iload_n 1, 1) := by decide +kernel
theorem dX12_readsTwo_152 : decode cX12_readsTwo 152 = .ok (.ishl, 1) := by decide +kernel
theorem dX12_readsTwo_153 : decode cX12_readsTwo 153 = .ok (.ior, 1) := by decide +kernel
theorem dX12_readsTwo_154 : decode cX12_readsTwo 154 = .ok (.goto 16, 3) := by decide +kernel
theorem dX12_readsTwo_157 : decode cX12_readsTwo 157 = .ok (.aload_n 0, 1) := by decide +kernel
theorem dX12_readsTwo_158 : decode cX12_readsTwo 158 = .ok (.getfield 19, 3) := by decide +kernel
theorem dX12_readsTwo_161 : decode cX12_readsTwo 161 = .ok (.iload 4, 2) := by decide +kernel
theorem dX12_readsTwo_163 : decode cX12_readsTwo 163 = .ok (.iaload, 1) := by decide +kernel
theorem dX12_readsTwo_164 : decode cX12_readsTwo 164 = .ok (.iconst 1, 1) := by decide +kernel
theorem dX12_readsTwo_165 : decode cX12_readsTwo 165 = .ok (.iload_n 1, 1) := by decide +kernel
theorem dX12_readsTwo_166 : decode cX12_readsTwo 166 = .ok (.ishl, 1) := by decide +kernel
theorem dX12_readsTwo_167 : decode cX12_readsTwo 167 = .ok (.iconst (-1), 1) := by decide +kernel
theorem dX12_readsTwo_168 : decode cX12_readsTwo 168 = .ok (.ixor, 1) := by decide +kernel
theorem dX12_readsTwo_169 : decode cX12_readsTwo 169 = .ok (.iand, 1) := by decide +kernel
theorem dX12_readsTwo_170 : decode cX12_readsTwo 170 = .ok (.iastore, 1) := by decide +kernel
theorem dX12_readsTwo_171 : decode cX12_readsTwo 171 = .ok (.iconst 1, 1) := by decide +kernel
theorem dX12_readsTwo_172 : decode cX12_readsTwo 172 = .ok (.ireturn, 1) := by decide +kernel
theorem dX12_readsDoor_0 : decode cX12_readsDoor 0 = .ok (.aload_n 0, 1) := by decide +kernel
theorem dX12_readsDoor_1 : decode cX12_readsDoor 1 = .ok (.getfield 159, 3) := by decide +kernel
theorem dX12_readsDoor_4 : decode cX12_readsDoor 4 = .ok (.istore_n 1, 1) := by decide +kernel
theorem dX12_readsDoor_5 : decode cX12_readsDoor 5 = .ok (.aload_n 0, 1) := by decide +kernel
theorem dX12_readsDoor_6 : decode cX12_readsDoor 6 = .ok (.invokevirtual 274, 3) := by decide +kernel
theorem dX12_readsDoor_9 : decode cX12_readsDoor 9 = .ok (.ifCond .ne 5, 3) := by decide +kernel
theorem dX12_readsDoor_12 : decode cX12_readsDoor 12 = .ok (.iconst 0, 1) := by decide +kernel
theorem dX12_readsDoor_13 : decode cX12_readsDoor 13 = .ok (.ireturn, 1) := by decide +kernel
theorem dX12_readsDoor_14 : decode cX12_readsDoor 14 = .ok (.aload_n 0, 1) := by decide +kernel
theorem dX12_readsDoor_15 : decode cX12_readsDoor 15 = .ok (.getfield 175, 3) := by decide +kernel
theorem dX12_readsDoor_18 : decode cX12_readsDoor 18 = .ok (.istore_n 2, 1) := by decide +kernel
theorem dX12_readsDoor_19 : decode cX12_readsDoor 19 = .ok (.iload_n 2, 1) := by decide +kernel
theorem dX12_readsDoor_20 : decode cX12_readsDoor 20 = .ok (.bipush 16, 2) := by decide +kernel
theorem dX12_readsDoor_22 : decode cX12_readsDoor 22 = .ok (.if_icmp .lt 10, 3) := by decide +kernel
theorem dX12_readsDoor_25 : decode cX12_readsDoor 25 = .ok (.aload_n 0, 1) := by decide +kernel
theorem dX12_readsDoor_26 : decode cX12_readsDoor 26 = .ok (.iconst 3, 1) := by decide +kernel
theorem dX12_readsDoor_27 : decode cX12_readsDoor 27 = .ok (.iload_n 1, 1) := by decide +kernel
theorem dX12_readsDoor_28 : decode cX12_readsDoor 28 = .ok (.invokevirtual 172, 3) := by decide +kernel
theorem dX12_readsDoor_31 : decode cX12_readsDoor 31 = .ok (.ireturn, 1) := by decide +kernel
theorem dX12_readsDoor_32 : decode cX12_readsDoor 32 = .ok (.aload_n 0, 1) := by decide +kernel
theorem dX12_readsDoor_33 : decode cX12_readsDoor 33 = .ok (.invokevirtual 165, 3) := by decide +kernel
theorem dX12_readsDoor_36 : decode cX12_readsDoor 36 = .ok (.bipush 33, 2) := by decide +kernel
theorem dX12_readsDoor_38 : decode cX12_readsDoor 38 = .ok (.if_icmp .ne 56, 3) := by decide +kernel
theorem dX12_readsDoor_41 : decode cX12_readsDoor 41 = .ok (.aload_n 0, 1) := by decide +kernel
theorem dX12_readsDoor_42 : decode cX12_readsDoor 42 = .ok (.iload_n 2, 1) := by decide +kernel
theorem dX12_readsDoor_43 : decode cX12_readsDoor 43 = .ok (.invokevirtual 142, 3) := by decide +kernel
theorem dX12_readsDoor_46 : decode cX12_readsDoor 46 = .ok (.ifCond .ne 11, 3) := by decide +kernel
theorem dX12_readsDoor_49 : decode cX12_readsDoor 49 = .ok (.aload_n 0, 1) := by decide +kernel
theorem dX12_readsDoor_50 : decode cX12_readsDoor 50 = .ok (.bipush 7, 2) := by decide +kernel
theorem dX12_readsDoor_52 : decode cX12_readsDoor 52 = .ok (.iload_n 1, 1) := by decide +kernel
theorem dX12_readsDoor_53 : decode cX12_readsDoor 53 = .ok (.invokevirtual 172, 3) := by decide +kernel
theorem dX12_readsDoor_56 : decode cX12_readsDoor 56 = .ok (.ireturn, 1) := by decide +kernel
theorem dX12_readsDoor_57 : decode cX12_readsDoor 57 = .ok (.aload_n 0, 1) := by decide +kernel
theorem dX12_readsDoor_58 : decode cX12_readsDoor 58 = .ok (.aload_n 0, 1) := by decide +kernel
theorem dX12_readsDoor_59 : decode cX12_readsDoor 59 = .ok (.getfield 159, 3) := by decide +kernel
theorem dX12_readsDoor_62 : decode cX12_readsDoor 62 = .ok (.iconst 1, 1) := by decide +kernel
theorem dX12_readsDoor_63 : decode cX12_readsDoor 63 = .ok (.iadd, 1) := by decide +kernel
theorem dX12_readsDoor_64 : decode cX12_readsDoor 64 = .ok (.putfield 159, 3) := by decide +kernel
theorem dX12_readsDoor_67 : decode cX12_readsDoor 67 = .ok (.aload_n 0, 1) := by decide +kernel
theorem dX12_readsDoor_68 : decode cX12_readsDoor 68 = .ok (.aload_n 0, 1) := by decide +kernel
theorem dX12_readsDoor_69 : decode cX12_readsDoor 69 = .ok (.getfield 129, 3) := by decide +kernel
theorem dX12_readsDoor_72 : decode cX12_readsDoor 72 = .ok (.iconst 1, 1) := by decide +kernel
theorem dX12_readsDoor_73 : decode cX12_readsDoor 73 = .ok (.iload_n 2, 1) := by decide +kernel
theorem dX12_readsDoor_74 : decode cX12_readsDoor 74 = .ok (.ishl, 1) := by decide +kernel
theorem dX12_readsDoor_75 : decode cX12_readsDoor 75 = .ok (.iconst (-1), 1) := by decide +kernel
theorem dX12_readsDoor_76 : decode cX12_readsDoor 76 = .ok (.ixor, 1) := by decide +kernel
theorem dX12_readsDoor_77 : decode cX12_readsDoor 77 = .ok (.iand, 1) := by decide +kernel
theorem dX12_readsDoor_78 : decode cX12_readsDoor 78 = .ok (.putfield 129, 3) := by decide +kernel
theorem dX12_readsDoor_81 : decode cX12_readsDoor 81 = .ok (.aload_n 0, 1) := by decide +kernel
theorem dX12_readsDoor_82 : decode cX12_readsDoor 82 = .ok (.getfield 7, 3) := by decide +kernel
theorem dX12_readsDoor_85 : decode cX12_readsDoor 85 = .ok (.sipush 192, 3) := by decide +kernel
theorem dX12_readsDoor_88 : decode cX12_readsDoor 88 = .ok (.iload_n 2, 1) := by decide +kernel
theorem dX12_readsDoor_89 : decode cX12_readsDoor 89 = .ok (.iadd, 1) := by decide +kernel
theorem dX12_readsDoor_90 : decode cX12_readsDoor 90 = .ok (.iconst 0, 1) := by decide +kernel
theorem dX12_readsDoor_91 : decode cX12_readsDoor 91 = .ok (.iastore, 1) := by decide +kernel
theorem dX12_readsDoor_92 : decode cX12_readsDoor 92 = .ok (.iconst 1, 1) := by decide +kernel
theorem dX12_readsDoor_93 : decode cX12_readsDoor 93 = .ok (.ireturn, 1) := by decide +kernel
theorem dX12_readsDoor_94 : decode cX12_readsDoor 94 = .ok (.aload_n 0, 1) := by decide +kernel
theorem dX12_readsDoor_95 : decode cX12_readsDoor 95 = .ok (.bipush 58, 2) := by decide +kernel
theorem dX12_readsDoor_97 : decode cX12_readsDoor 97 = .ok (.invokevirtual 248, 3) := by decide +kernel
theorem dX12_readsDoor_100 : decode cX12_readsDoor 100 = .ok (.ifCond .ne 5, 3) := by decide +kernel
theorem dX12_readsDoor_103 : decode cX12_readsDoor 103 = .ok (.iconst 0, 1) := by decide +kernel
theorem dX12_readsDoor_104 : decode cX12_readsDoor 104 = .ok (.ireturn, 1) := by decide +kernel
theorem dX12_readsDoor_105 : decode cX12_readsDoor 105 = .ok (.aload_n 0, 1) := by decide +kernel
theorem dX12_readsDoor_106 : decode cX12_readsDoor 106 = .ok (.invokevirtual 265, 3) := by decide +kernel
theorem dX12_readsDoor_109 : decode cX12_readsDoor 109 = .ok (.ifCond .ne 13, 3) := by decide +kernel
theorem dX12_readsDoor_112 : decode cX12_readsDoor 112 = .ok (.aload_n 0, 1) := by decide +kernel
theorem dX12_readsDoor_113 : decode cX12_readsDoor 113 = .ok (.iconst 1, 1) := by decide +kernel
theorem dX12_readsDoor_114 : decode cX12_readsDoor 114 = .ok (.aload_n 0, 1) := by decide +kernel
theorem dX12_readsDoor_115 : decode cX12_readsDoor 115 = .ok (.getfield 159, 3) := by decide +kernel
theorem dX12_readsDoor_118 : decode cX12_readsDoor 118 = .ok (.invokevirtual 172, 3) := by decide +kernel
theorem dX12_readsDoor_121 : decode cX12_readsDoor 121 = .ok (.ireturn, 1) := by decide +kernel
theorem dX12_readsDoor_122 : decode cX12_readsDoor 122 = .ok (.aload_n 0, 1) := by decide +kernel
theorem dX12_readsDoor_123 : decode cX12_readsDoor 123 = .ok (.invokevirtual 165, 3) := by decide +kernel
theorem dX12_readsDoor_126 : decode cX12_readsDoor 126 = .ok (.bipush 97, 2) := by decide +kernel
theorem dX12_readsDoor_128 : decode cX12_readsDoor 128 = .ok (.isub, 1) := by decide +kernel
theorem dX12_readsDoor_129 : decode cX12_readsDoor 129 = .ok (.istore_n 3, 1) := by decide +kernel
theorem dX12_readsDoor_130 : decode cX12_readsDoor 130 = .ok (.aload_n 0, 1) := by decide +kernel
theorem dX12_readsDoor_131 : decode cX12_readsDoor 131 = .ok (.aload_n 0, 1) := by decide +kernel
theorem dX12_readsDoor_132 : decode cX12_readsDoor 132 = .ok (.getfield 159, 3) := by decide +kernel
theorem dX12_readsDoor_135 : decode cX12_readsDoor 135 = .ok (.iconst 1, 1) := by decide +kernel
theorem dX12_readsDoor_136 : decode cX12_readsDoor 136 = .ok (.iadd, 1) := by decide +kernel
theorem dX12_readsDoor_137 : decode cX12_readsDoor 137 = .ok (.putfield 159, 3) := by decide +kernel
theorem dX12_readsDoor_140 : decode cX12_readsDoor 140 = .ok (.aload_n 0, 1) := by decide +kernel
theorem dX12_readsDoor_141 : decode cX12_readsDoor 141 = .ok (.invokevirtual 274, 3) := by decide +kernel
theorem dX12_readsDoor_144 : decode cX12_readsDoor 144 = .ok (.ifCond .ne 5, 3) := by decide +kernel
theorem dX12_readsDoor_147 : decode cX12_readsDoor 147 = .ok (.iconst 0, 1) := by decide +kernel
theorem dX12_readsDoor_148 : decode cX12_readsDoor 148 = .ok (.ireturn, 1) := by decide +kernel
theorem dX12_readsDoor_149 : decode cX12_readsDoor 149 = .ok (.aload_n 0, 1) := by decide +kernel
theorem dX12_readsDoor_150 : decode cX12_readsDoor 150 = .ok (.aload_n 0, 1) := by decide +kernel
theorem dX12_readsDoor_151 : decode cX12_readsDoor 151 = .ok (.getfield 129, 3) := by decide +kernel
theorem dX12_readsDoor_154 : decode cX12_readsDoor 154 = .ok (.iconst 1, 1) := by decide +kernel
theorem dX12_readsDoor_155 : decode cX12_readsDoor 155 = .ok (.iload_n 2, 1) := by decide +kernel
theorem dX12_readsDoor_156 : decode cX12_readsDoor 156 = .ok (.ishl, 1) := by decide +kernel
theorem dX12_readsDoor_157 : decode cX12_readsDoor 157 = .ok (.ior, 1) := by decide +kernel
theorem dX12_readsDoor_158 : decode cX12_readsDoor 158 = .ok (.putfield 129, 3) := by decide +kernel
theorem dX12_readsDoor_161 : decode cX12_readsDoor 161 = .ok (.aload_n 0, 1) := by decide +kernel
theorem dX12_readsDoor_162 : decode cX12_readsDoor 162 = .ok (.getfield 25, 3) := by decide +kernel
theorem dX12_readsDoor_165 : decode cX12_readsDoor 165 = .ok (.iload_n 2, 1) := by decide +kernel
theorem dX12_readsDoor_166 : decode cX12_readsDoor 166 = .ok (.iload_n 3, 1) := by decide +kernel
theorem dX12_readsDoor_167 : decode cX12_readsDoor 167 = .ok (.iastore, 1) := by decide +kernel
theorem dX12_readsDoor_168 : decode cX12_readsDoor 168 = .ok (.aload_n 0, 1) := by decide +kernel
theorem dX12_readsDoor_169 : decode cX12_readsDoor 169 = .ok (.getfield 28, 3) := by decide +kernel
theorem dX12_readsDoor_172 : decode cX12_readsDoor 172 = .ok (.iload_n 2, 1) := by decide +kernel
theorem dX12_readsDoor_173 : decode cX12_readsDoor 173 = .ok (.aload_n 0, 1) := by decide +kernel
theorem dX12_readsDoor_174 : decode cX12_readsDoor 174 = .ok (.getfield 175, 3) := by decide +kernel
theorem dX12_readsDoor_177 : decode cX12_readsDoor 177 = .ok (.iastore, 1) := by decide +kernel
theorem dX12_readsDoor_178 : decode cX12_readsDoor 178 = .ok (.aload_n 0, 1) := by decide +kernel
theorem dX12_readsDoor_179 : decode cX12_readsDoor 179 = .ok (.getfield 7, 3) := by decide +kernel
theorem dX12_readsDoor_182 : decode cX12_readsDoor 182 = .ok (.sipush 192, 3) := by decide +kernel
theorem dX12_readsDoor_185 : decode cX12_readsDoor 185 = .ok (.iload_n 2, 1) := by decide +kernel
theorem dX12_readsDoor_186 : decode cX12_readsDoor 186 = .ok (.iadd, 1) := by decide +kernel
theorem dX12_readsDoor_187 : decode cX12_readsDoor 187 = .ok (.iconst 0, 1) := by decide +kernel
theorem dX12_readsDoor_188 : decode cX12_readsDoor 188 = .ok (.iastore, 1) := by decide +kernel
theorem dX12_readsDoor_189 : decode cX12_readsDoor 189 = .ok (.iconst 1, 1) := by decide +kernel
theorem dX12_readsDoor_190 : decode cX12_readsDoor 190 = .ok (.ireturn, 1) := by decide +kernel
theorem dX12_readsOrder_0 : decode cX12_readsOrder 0 = .ok (.aload_n 0, 1) := by decide +kernel
theorem dX12_readsOrder_1 : decode cX12_readsOrder 1 = .ok (.invokevirtual 165, 3) := by decide +kernel
theorem dX12_readsOrder_4 : decode cX12_readsOrder 4 = .ok (.bipush 100, 2) := by decide +kernel
theorem dX12_readsOrder_6 : decode cX12_readsOrder 6 = .ok (.if_icmp .eq 20, 3) := by decide +kernel
theorem dX12_readsOrder_9 : decode cX12_readsOrder 9 = .ok (.aload_n 0, 1) := by decide +kernel
theorem dX12_readsOrder_10 : decode cX12_readsOrder 10 = .ok (.invokevirtual 178, 3) := by decide +kernel
theorem dX12_readsOrder_13 : decode cX12_readsOrder 13 = .ok (.ifCond .ne 13, 3) := by decide +kernel
theorem dX12_readsOrder_16 : decode cX12_readsOrder 16 = .ok (.aload_n 0, 1) := by decide +kernel
theorem dX12_readsOrder_17 : decode cX12_readsOrder 17 = .ok (.iconst 1, 1) := by decide +kernel
theorem dX12_readsOrder_18 : decode cX12_readsOrder 18 = .ok (.aload_n 0, 1) := by decide +kernel
theorem dX12_readsOrder_19 : decode cX12_readsOrder 19 = .ok (.getfield 159, 3) := by decide +kernel
theorem dX12_readsOrder_22 : decode cX12_readsOrder 22 = .ok (.invokevirtual 172, 3) := by decide +kernel
theorem dX12_readsOrder_25 : decode cX12_readsOrder 25 = .ok (.ireturn, 1) := by decide +kernel
theorem dX12_readsOrder_26 : decode cX12_readsOrder 26 = .ok (.aload_n 0, 1) := by decide +kernel
theorem dX12_readsOrder_27 : decode cX12_readsOrder 27 = .ok (.getfield 268, 3) := by decide +kernel
theorem dX12_readsOrder_30 : decode cX12_readsOrder 30 = .ok (.bipush 16, 2) := by decide +kernel
theorem dX12_readsOrder_32 : decode cX12_readsOrder 32 = .ok (.if_icmp .ne 13, 3) := by decide +kernel
theorem dX12_readsOrder_35 : decode cX12_readsOrder 35 = .ok (.aload_n 0, 1) := by decide +kernel
theorem dX12_readsOrder_36 : decode cX12_readsOrder 36 = .ok (.iconst 4, 1) := by decide +kernel
theorem dX12_readsOrder_37 : decode cX12_readsOrder 37 = .ok (.aload_n 0, 1) := by decide +kernel
theorem dX12_readsOrder_38 : decode cX12_readsOrder 38 = .ok (.getfield 159, 3) := by decide +kernel
theorem dX12_readsOrder_41 : decode cX12_readsOrder 41 = .ok (.invokevirtual 172, 3) := by decide +kernel
theorem dX12_readsOrder_44 : decode cX12_readsOrder 44 = .ok (.ireturn, 1) := by decide +kernel
theorem dX12_readsOrder_45 : decode cX12_readsOrder 45 = .ok (.aload_n 0, 1) := by decide +kernel
theorem dX12_readsOrder_46 : decode cX12_readsOrder 46 = .ok (.aload_n 0, 1) := by decide +kernel
theorem dX12_readsOrder_47 : decode cX12_readsOrder 47 = .ok (.getfield 268, 3) := by decide +kernel
theorem dX12_readsOrder_50 : decode cX12_readsOrder 50 = .ok (.iconst 1, 1) := by decide +kernel
theorem dX12_readsOrder_51 : decode cX12_readsOrder 51 = .ok (.iadd, 1) := by decide +kernel
theorem dX12_readsOrder_52 : decode cX12_readsOrder 52 = .ok (.putfield 268, 3) := by decide +kernel
theorem dX12_readsOrder_55 : decode cX12_readsOrder 55 = .ok (.aload_n 0, 1) := by decide +kernel
theorem dX12_readsOrder_56 : decode cX12_readsOrder 56 = .ok (.invokevirtual 165, 3) := by decide +kernel
theorem dX12_readsOrder_59 : decode cX12_readsOrder 59 = .ok (.bipush 100, 2) := by decide +kernel
theorem dX12_readsOrder_61 : decode cX12_readsOrder 61 = .ok (.if_icmp .eq 8, 3) := by decide +kernel
theorem dX12_readsOrder_64 : decode cX12_readsOrder 64 = .ok (.aload_n 0, 1) := by decide +kernel
theorem dX12_readsOrder_65 : decode cX12_readsOrder 65 = .ok (.invokevirtual 290, 3) := by decide +kernel
theorem dX12_readsOrder_68 : decode cX12_readsOrder 68 = .ok (.ireturn, 1) := by decide +kernel
theorem dX12_readsOrder_69 : decode cX12_readsOrder 69 = .ok (.aload_n 0, 1) := by decide +kernel
theorem dX12_readsOrder_70 : decode cX12_readsOrder 70 = .ok (.aload_n 0, 1) := by decide +kernel
theorem dX12_readsOrder_71 : decode cX12_readsOrder 71 = .ok (.getfield 159, 3) := by decide +kernel
theorem dX12_readsOrder_74 : decode cX12_readsOrder 74 = .ok (.iconst 1, 1) := by decide +kernel
theorem dX12_readsOrder_75 : decode cX12_readsOrder 75 = .ok (.iadd, 1) := by decide +kernel
theorem dX12_readsOrder_76 : decode cX12_readsOrder 76 = .ok (.putfield 159, 3) := by decide +kernel
theorem dX12_readsOrder_79 : decode cX12_readsOrder 79 = .ok (.aload_n 0, 1) := by decide +kernel
theorem dX12_readsOrder_80 : decode cX12_readsOrder 80 = .ok (.invokevirtual 293, 3) := by decide +kernel
theorem dX12_readsOrder_83 : decode cX12_readsOrder 83 = .ok (.ireturn, 1) := by decide +kernel
theorem dX12_laysAside_0 : decode cX12_laysAside 0 = .ok (.aload_n 0, 1) := by decide +kernel
theorem dX12_laysAside_1 : decode cX12_laysAside 1 = .ok (.getfield 7, 3) := by decide +kernel
theorem dX12_laysAside_4 : decode cX12_laysAside 4 = .ok (.aload_n 0, 1) := by decide +kernel
theorem dX12_laysAside_5 : decode cX12_laysAside 5 = .ok (.getfield 13, 3) := by decide +kernel
theorem dX12_laysAside_8 : decode cX12_laysAside 8 = .ok (.invokestatic 280, 3) := by decide +kernel
theorem dX12_laysAside_11 : decode cX12_laysAside 11 = .ok (.aload_n 0, 1) := by decide +kernel
theorem dX12_laysAside_12 : decode cX12_laysAside 12 = .ok (.aload_n 0, 1) := by decide +kernel
theorem dX12_laysAside_13 : decode cX12_laysAside 13 = .ok (.getfield 129, 3) := by decide +kernel
theorem dX12_laysAside_16 : decode cX12_laysAside 16 = .ok (.putfield 296, 3) := by decide +kernel
theorem dX12_laysAside_19 : decode cX12_laysAside 19 = .ok (.iconst 0, 1) := by decide +kernel
theorem dX12_laysAside_20 : decode cX12_laysAside 20 = .ok (.istore_n 1, 1) := by decide +kernel
theorem dX12_laysAside_21 : decode cX12_laysAside 21 = .ok (.iload_n 1, 1) := by decide +kernel
theorem dX12_laysAside_22 : decode cX12_laysAside 22 = .ok (.bipush 12, 2) := by decide +kernel
theorem dX12_laysAside_24 : decode cX12_laysAside 24 = .ok (.if_icmp .ge 21, 3) := by decide +kernel
theorem dX12_laysAside_27 : decode cX12_laysAside 27 = .ok (.aload_n 0, 1) := by decide +kernel
theorem dX12_laysAside_28 : decode cX12_laysAside 28 = .ok (.getfield 22, 3) := by decide +kernel
theorem dX12_laysAside_31 : decode cX12_laysAside 31 = .ok (.iload_n 1, 1) := by decide +kernel
theorem dX12_laysAside_32 : decode cX12_laysAside 32 = .ok (.aload_n 0, 1) := by decide +kernel
theorem dX12_laysAside_33 : decode cX12_laysAside 33 = .ok (.getfield 19, 3) := by decide +kernel
theorem dX12_laysAside_36 : decode cX12_laysAside 36 = .ok (.iload_n 1, 1) := by decide +kernel
theorem dX12_laysAside_37 : decode cX12_laysAside 37 = .ok (.iaload, 1) := by decide +kernel
theorem dX12_laysAside_38 : decode cX12_laysAside 38 = .ok (.iastore, 1) := by decide +kernel
theorem dX12_laysAside_39 : decode cX12_laysAside 39 = .ok (.iinc 1 1, 3) := by decide +kernel
theorem dX12_laysAside_42 : decode cX12_laysAside 42 = .ok (.goto (-21), 3) := by decide +kernel
theorem dX12_laysAside_45 : decode cX12_laysAside 45 = .ok (.iconst 0, 1) := by decide +kernel
theorem dX12_laysAside_46 : decode cX12_laysAside 46 = .ok (.istore_n 1, 1) := by decide +kernel
theorem dX12_laysAside_47 : decode cX12_laysAside 47 = .ok (.iload_n 1, 1) := by decide +kernel
theorem dX12_laysAside_48 : decode cX12_laysAside 48 = .ok (.bipush 16, 2) := by decide +kernel
theorem dX12_laysAside_50 : decode cX12_laysAside 50 = .ok (.if_icmp .ge 33, 3) := by decide +kernel
theorem dX12_laysAside_53 : decode cX12_laysAside 53 = .ok (.aload_n 0, 1) := by decide +kernel
theorem dX12_laysAside_54 : decode cX12_laysAside 54 = .ok (.getfield 31, 3) := by decide +kernel
theorem dX12_laysAside_57 : decode cX12_laysAside 57 = .ok (.iload_n 1, 1) := by decide +kernel
theorem dX12_laysAside_58 : decode cX12_laysAside 58 = .ok (.aload_n 0, 1) := by decide +kernel
theorem dX12_laysAside_59 : decode cX12_laysAside 59 = .ok (.getfield 25, 3) := by decide +kernel
theorem dX12_laysAside_62 : decode cX12_laysAside 62 = .ok (.iload_n 1, 1) := by decide +kernel
theorem dX12_laysAside_63 : decode cX12_laysAside 63 = .ok (.iaload, 1) := by decide +kernel
theorem dX12_laysAside_64 : decode cX12_laysAside 64 = .ok (.iastore, 1) := by decide +kernel
theorem dX12_laysAside_65 : decode cX12_laysAside 65 = .ok (.aload_n 0, 1) := by decide +kernel
theorem dX12_laysAside_66 : decode cX12_laysAside 66 = .ok (.getfield 34, 3) := by decide +kernel
theorem dX12_laysAside_69 : decode cX12_laysAside 69 = .ok (.iload_n 1, 1) := by decide +kernel
theorem dX12_laysAside_70 : decode cX12_laysAside 70 = .ok (.aload_n 0, 1) := by decide +kernel
theorem dX12_laysAside_71 : decode cX12_laysAside 71 = .ok (.getfield 28, 3) := by decide +kernel
theorem dX12_laysAside_74 : decode cX12_laysAside 74 = .ok (.iload_n 1, 1) := by decide +kernel
theorem dX12_laysAside_75 : decode cX12_laysAside 75 = .ok (.iaload, 1) := by decide +kernel
theorem dX12_laysAside_76 : decode cX12_laysAside 76 = .ok (.iastore, 1) := by decide +kernel
theorem dX12_laysAside_77 : decode cX12_laysAside 77 = .ok (.iinc 1 1, 3) := by decide +kernel
theorem dX12_laysAside_80 : decode cX12_laysAside 80 = .ok (.goto (-33), 3) := by decide +kernel
theorem dX12_laysAside_83 : decode cX12_laysAside 83 = .ok (.return_, 1) := by decide +kernel
theorem dX12_putsBack_0 : decode cX12_putsBack 0 = .ok (.aload_n 0, 1) := by decide +kernel
theorem dX12_putsBack_1 : decode cX12_putsBack 1 = .ok (.getfield 13, 3) := by decide +kernel
theorem dX12_putsBack_4 : decode cX12_putsBack 4 = .ok (.aload_n 0, 1) := by decide +kernel
theorem dX12_putsBack_5 : decode cX12_putsBack 5 = .ok (.getfield 7, 3) := by decide +kernel
theorem dX12_putsBack_8 : decode cX12_putsBack 8 = .ok (.invokestatic 280, 3) := by decide +kernel
theorem dX12_putsBack_11 : decode cX12_putsBack 11 = .ok (.aload_n 0, 1) := by decide +kernel
theorem dX12_putsBack_12 : decode cX12_putsBack 12 = .ok (.aload_n 0, 1) := by decide +kernel
theorem dX12_putsBack_13 : decode cX12_putsBack 13 = .ok (.getfield 296, 3) := by decide +kernel
theorem dX12_putsBack_16 : decode cX12_putsBack 16 = .ok (.putfield 129, 3) := by decide +kernel
theorem dX12_putsBack_19 : decode cX12_putsBack 19 = .ok (.iconst 0, 1) := by decide +kernel
theorem dX12_putsBack_20 : decode cX12_putsBack 20 = .ok (.istore_n 1, 1) := by decide +kernel
theorem dX12_putsBack_21 : decode cX12_putsBack 21 = .ok (.iload_n 1, 1) := by decide +kernel
theorem dX12_putsBack_22 : decode cX12_putsBack 22 = .ok (.bipush 12, 2) := by decide +kernel
theorem dX12_putsBack_24 : decode cX12_putsBack 24 = .ok (.if_icmp .ge 21, 3) := by decide +kernel
theorem dX12_putsBack_27 : decode cX12_putsBack 27 = .ok (.aload_n 0, 1) := by decide +kernel
theorem dX12_putsBack_28 : decode cX12_putsBack 28 = .ok (.getfield 19, 3) := by decide +kernel
theorem dX12_putsBack_31 : decode cX12_putsBack 31 = .ok (.iload_n 1, 1) := by decide +kernel
theorem dX12_putsBack_32 : decode cX12_putsBack 32 = .ok (.aload_n 0, 1) := by decide +kernel
theorem dX12_putsBack_33 : decode cX12_putsBack 33 = .ok (.getfield 22, 3) := by decide +kernel
theorem dX12_putsBack_36 : decode cX12_putsBack 36 = .ok (.iload_n 1, 1) := by decide +kernel
