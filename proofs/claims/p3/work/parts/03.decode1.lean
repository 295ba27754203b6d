theorem dX0_init_0 : decode cX0_init 0 = .ok (.aload_n 0, 1) := by decide +kernel
theorem dX0_init_1 : decode cX0_init 1 = .ok (.invokespecial 3, 3) := by decide +kernel
theorem dX0_init_4 : decode cX0_init 4 = .ok (.aload_n 0, 1) := by decide +kernel
theorem dX0_init_5 : decode cX0_init 5 = .ok (.bipush 12, 2) := by decide +kernel
theorem dX0_init_7 : decode cX0_init 7 = .ok (.bipush 16, 2) := by decide +kernel
theorem dX0_init_9 : decode cX0_init 9 = .ok (.multianewarray 9 2, 4) := by decide +kernel
theorem dX0_init_13 : decode cX0_init 13 = .ok (.putfield 11, 3) := by decide +kernel
theorem dX0_init_16 : decode cX0_init 16 = .ok (.aload_n 0, 1) := by decide +kernel
theorem dX0_init_17 : decode cX0_init 17 = .ok (.bipush 12, 2) := by decide +kernel
theorem dX0_init_19 : decode cX0_init 19 = .ok (.newarray .int, 2) := by decide +kernel
theorem dX0_init_21 : decode cX0_init 21 = .ok (.putfield 16, 3) := by decide +kernel
theorem dX0_init_24 : decode cX0_init 24 = .ok (.aload_n 0, 1) := by decide +kernel
theorem dX0_init_25 : decode cX0_init 25 = .ok (.bipush 16, 2) := by decide +kernel
theorem dX0_init_27 : decode cX0_init 27 = .ok (.newarray .int, 2) := by decide +kernel
theorem dX0_init_29 : decode cX0_init 29 = .ok (.putfield 20, 3) := by decide +kernel
theorem dX0_init_32 : decode cX0_init 32 = .ok (.aload_n 0, 1) := by decide +kernel
theorem dX0_init_33 : decode cX0_init 33 = .ok (.bipush 16, 2) := by decide +kernel
theorem dX0_init_35 : decode cX0_init 35 = .ok (.newarray .int, 2) := by decide +kernel
theorem dX0_init_37 : decode cX0_init 37 = .ok (.putfield 23, 3) := by decide +kernel
theorem dX0_init_40 : decode cX0_init 40 = .ok (.aload_n 0, 1) := by decide +kernel
theorem dX0_init_41 : decode cX0_init 41 = .ok (.bipush 16, 2) := by decide +kernel
theorem dX0_init_43 : decode cX0_init 43 = .ok (.newarray .int, 2) := by decide +kernel
theorem dX0_init_45 : decode cX0_init 45 = .ok (.putfield 26, 3) := by decide +kernel
theorem dX0_init_48 : decode cX0_init 48 = .ok (.aload_n 0, 1) := by decide +kernel
theorem dX0_init_49 : decode cX0_init 49 = .ok (.iconst 0, 1) := by decide +kernel
theorem dX0_init_50 : decode cX0_init 50 = .ok (.putfield 29, 3) := by decide +kernel
theorem dX0_init_53 : decode cX0_init 53 = .ok (.aload_n 0, 1) := by decide +kernel
theorem dX0_init_54 : decode cX0_init 54 = .ok (.iconst 0, 1) := by decide +kernel
theorem dX0_init_55 : decode cX0_init 55 = .ok (.putfield 33, 3) := by decide +kernel
theorem dX0_init_58 : decode cX0_init 58 = .ok (.aload_n 0, 1) := by decide +kernel
theorem dX0_init_59 : decode cX0_init 59 = .ok (.iconst 0, 1) := by decide +kernel
theorem dX0_init_60 : decode cX0_init 60 = .ok (.putfield 36, 3) := by decide +kernel
theorem dX0_init_63 : decode cX0_init 63 = .ok (.aload_n 0, 1) := by decide +kernel
theorem dX0_init_64 : decode cX0_init 64 = .ok (.iconst 1, 1) := by decide +kernel
theorem dX0_init_65 : decode cX0_init 65 = .ok (.putfield 39, 3) := by decide +kernel
theorem dX0_init_68 : decode cX0_init 68 = .ok (.return_, 1) := by decide +kernel
theorem dX0_isPerson_0 : decode cX0_isPerson 0 = .ok (.iload_n 1, 1) := by decide +kernel
theorem dX0_isPerson_1 : decode cX0_isPerson 1 = .ok (.ifCond .lt 24, 3) := by decide +kernel
theorem dX0_isPerson_4 : decode cX0_isPerson 4 = .ok (.iload_n 1, 1) := by decide +kernel
theorem dX0_isPerson_5 : decode cX0_isPerson 5 = .ok (.bipush 12, 2) := by decide +kernel
theorem dX0_isPerson_7 : decode cX0_isPerson 7 = .ok (.if_icmp .ge 18, 3) := by decide +kernel
theorem dX0_isPerson_10 : decode cX0_isPerson 10 = .ok (.aload_n 0, 1) := by decide +kernel
theorem dX0_isPerson_11 : decode cX0_isPerson 11 = .ok (.getfield 29, 3) := by decide +kernel
theorem dX0_isPerson_14 : decode cX0_isPerson 14 = .ok (.iload_n 1, 1) := by decide +kernel
theorem dX0_isPerson_15 : decode cX0_isPerson 15 = .ok (.invokestatic 42, 3) := by decide +kernel
theorem dX0_isPerson_18 : decode cX0_isPerson 18 = .ok (.ifCond .eq 7, 3) := by decide +kernel
theorem dX0_isPerson_21 : decode cX0_isPerson 21 = .ok (.iconst 1, 1) := by decide +kernel
theorem dX0_isPerson_22 : decode cX0_isPerson 22 = .ok (.goto 4, 3) := by decide +kernel
theorem dX0_isPerson_25 : decode cX0_isPerson 25 = .ok (.iconst 0, 1) := by decide +kernel
theorem dX0_isPerson_26 : decode cX0_isPerson 26 = .ok (.ireturn, 1) := by decide +kernel
theorem dX0_isDoor_0 : decode cX0_isDoor 0 = .ok (.iload_n 1, 1) := by decide +kernel
theorem dX0_isDoor_1 : decode cX0_isDoor 1 = .ok (.ifCond .lt 24, 3) := by decide +kernel
theorem dX0_isDoor_4 : decode cX0_isDoor 4 = .ok (.iload_n 1, 1) := by decide +kernel
theorem dX0_isDoor_5 : decode cX0_isDoor 5 = .ok (.bipush 16, 2) := by decide +kernel
theorem dX0_isDoor_7 : decode cX0_isDoor 7 = .ok (.if_icmp .ge 18, 3) := by decide +kernel
theorem dX0_isDoor_10 : decode cX0_isDoor 10 = .ok (.aload_n 0, 1) := by decide +kernel
theorem dX0_isDoor_11 : decode cX0_isDoor 11 = .ok (.getfield 33, 3) := by decide +kernel
theorem dX0_isDoor_14 : decode cX0_isDoor 14 = .ok (.iload_n 1, 1) := by decide +kernel
theorem dX0_isDoor_15 : decode cX0_isDoor 15 = .ok (.invokestatic 42, 3) := by decide +kernel
theorem dX0_isDoor_18 : decode cX0_isDoor 18 = .ok (.ifCond .eq 7, 3) := by decide +kernel
theorem dX0_isDoor_21 : decode cX0_isDoor 21 = .ok (.iconst 1, 1) := by decide +kernel
theorem dX0_isDoor_22 : decode cX0_isDoor 22 = .ok (.goto 4, 3) := by decide +kernel
theorem dX0_isDoor_25 : decode cX0_isDoor 25 = .ok (.iconst 0, 1) := by decide +kernel
theorem dX0_isDoor_26 : decode cX0_isDoor 26 = .ok (.ireturn, 1) := by decide +kernel
theorem dX0_dreadOf_0 : decode cX0_dreadOf 0 = .ok (.iload_n 1, 1) := by decide +kernel
theorem dX0_dreadOf_1 : decode cX0_dreadOf 1 = .ok (.ifCond .lt 19, 3) := by decide +kernel
theorem dX0_dreadOf_4 : decode cX0_dreadOf 4 = .ok (.iload_n 1, 1) := by decide +kernel
theorem dX0_dreadOf_5 : decode cX0_dreadOf 5 = .ok (.bipush 12, 2) := by decide +kernel
theorem dX0_dreadOf_7 : decode cX0_dreadOf 7 = .ok (.if_icmp .ge 13, 3) := by decide +kernel
theorem dX0_dreadOf_10 : decode cX0_dreadOf 10 = .ok (.iload_n 2, 1) := by decide +kernel
theorem dX0_dreadOf_11 : decode cX0_dreadOf 11 = .ok (.ifCond .lt 9, 3) := by decide +kernel
theorem dX0_dreadOf_14 : decode cX0_dreadOf 14 = .ok (.iload_n 2, 1) := by decide +kernel
theorem dX0_dreadOf_15 : decode cX0_dreadOf 15 = .ok (.bipush 16, 2) := by decide +kernel
theorem dX0_dreadOf_17 : decode cX0_dreadOf 17 = .ok (.if_icmp .lt 5, 3) := by decide +kernel
theorem dX0_dreadOf_20 : decode cX0_dreadOf 20 = .ok (.iconst 0, 1) := by decide +kernel
theorem dX0_dreadOf_21 : decode cX0_dreadOf 21 = .ok (.ireturn, 1) := by decide +kernel
theorem dX0_dreadOf_22 : decode cX0_dreadOf 22 = .ok (.aload_n 0, 1) := by decide +kernel
theorem dX0_dreadOf_23 : decode cX0_dreadOf 23 = .ok (.getfield 11, 3) := by decide +kernel
theorem dX0_dreadOf_26 : decode cX0_dreadOf 26 = .ok (.iload_n 1, 1) := by decide +kernel
theorem dX0_dreadOf_27 : decode cX0_dreadOf 27 = .ok (.aaload, 1) := by decide +kernel
theorem dX0_dreadOf_28 : decode cX0_dreadOf 28 = .ok (.iload_n 2, 1) := by decide +kernel
theorem dX0_dreadOf_29 : decode cX0_dreadOf 29 = .ok (.iaload, 1) := by decide +kernel
theorem dX0_dreadOf_30 : decode cX0_dreadOf 30 = .ok (.ireturn, 1) := by decide +kernel
theorem dX0_setDread_0 : decode cX0_setDread 0 = .ok (.iload_n 1, 1) := by decide +kernel
theorem dX0_setDread_1 : decode cX0_setDread 1 = .ok (.ifCond .lt 34, 3) := by decide +kernel
theorem dX0_setDread_4 : decode cX0_setDread 4 = .ok (.iload_n 1, 1) := by decide +kernel
theorem dX0_setDread_5 : decode cX0_setDread 5 = .ok (.bipush 12, 2) := by decide +kernel
theorem dX0_setDread_7 : decode cX0_setDread 7 = .ok (.if_icmp .ge 28, 3) := by decide +kernel
theorem dX0_setDread_10 : decode cX0_setDread 10 = .ok (.iload_n 2, 1) := by decide +kernel
theorem dX0_setDread_11 : decode cX0_setDread 11 = .ok (.ifCond .lt 24, 3) := by decide +kernel
theorem dX0_setDread_14 : decode cX0_setDread 14 = .ok (.iload_n 2, 1) := by decide +kernel
theorem dX0_setDread_15 : decode cX0_setDread 15 = .ok (.bipush 16, 2) := by decide +kernel
theorem dX0_setDread_17 : decode cX0_setDread 17 = .ok (.if_icmp .ge 18, 3) := by decide +kernel
theorem dX0_setDread_20 : decode cX0_setDread 20 = .ok (.aload_n 0, 1) := by decide +kernel
theorem dX0_setDread_21 : decode cX0_setDread 21 = .ok (.getfield 11, 3) := by decide +kernel
theorem dX0_setDread_24 : decode cX0_setDread 24 = .ok (.iload_n 1, 1) := by decide +kernel
theorem dX0_setDread_25 : decode cX0_setDread 25 = .ok (.aaload, 1) := by decide +kernel
theorem dX0_setDread_26 : decode cX0_setDread 26 = .ok (.iload_n 2, 1) := by decide +kernel
theorem dX0_setDread_27 : decode cX0_setDread 27 = .ok (.iload_n 3, 1) := by decide +kernel
theorem dX0_setDread_28 : decode cX0_setDread 28 = .ok (.iconst 0, 1) := by decide +kernel
theorem dX0_setDread_29 : decode cX0_setDread 29 = .ok (.bipush 99, 2) := by decide +kernel
theorem dX0_setDread_31 : decode cX0_setDread 31 = .ok (.invokestatic 46, 3) := by decide +kernel
theorem dX0_setDread_34 : decode cX0_setDread 34 = .ok (.iastore, 1) := by decide +kernel
theorem dX0_setDread_35 : decode cX0_setDread 35 = .ok (.return_, 1) := by decide +kernel
theorem dX0_greatestDread_0 : decode cX0_greatestDread 0 = .ok (.iconst 0, 1) := by decide +kernel
theorem dX0_greatestDread_1 : decode cX0_greatestDread 1 = .ok (.istore_n 2, 1) := by decide +kernel
theorem dX0_greatestDread_2 : decode cX0_greatestDread 2 = .ok (.iconst 0, 1) := by decide +kernel
theorem dX0_greatestDread_3 : decode cX0_greatestDread 3 = .ok (.istore_n 3, 1) := by decide +kernel
theorem dX0_greatestDread_4 : decode cX0_greatestDread 4 = .ok (.iload_n 3, 1) := by decide +kernel
theorem dX0_greatestDread_5 : decode cX0_greatestDread 5 = .ok (.bipush 16, 2) := by decide +kernel
theorem dX0_greatestDread_7 : decode cX0_greatestDread 7 = .ok (.if_icmp .ge 20, 3) := by decide +kernel
theorem dX0_greatestDread_10 : decode cX0_greatestDread 10 = .ok (.iload_n 2, 1) := by decide +kernel
theorem dX0_greatestDread_11 : decode cX0_greatestDread 11 = .ok (.aload_n 0, 1) := by decide +kernel
theorem dX0_greatestDread_12 : decode cX0_greatestDread 12 = .ok (.iload_n 1, 1) := by decide +kernel
theorem dX0_greatestDread_13 : decode cX0_greatestDread 13 = .ok (.iload_n 3, 1) := by decide +kernel
theorem dX0_greatestDread_14 : decode cX0_greatestDread 14 = .ok (.invokevirtual 50, 3) := by decide +kernel
theorem dX0_greatestDread_17 : decode cX0_greatestDread 17 = .ok (.invokestatic 54, 3) := by decide +kernel
theorem dX0_greatestDread_20 : decode cX0_greatestDread 20 = .ok (.istore_n 2, 1) := by decide +kernel
theorem dX0_greatestDread_21 : decode cX0_greatestDread 21 = .ok (.iinc 3 1, 3) := by decide +kernel
theorem dX0_greatestDread_24 : decode cX0_greatestDread 24 = .ok (.goto (-20), 3) := by decide +kernel
theorem dX0_greatestDread_27 : decode cX0_greatestDread 27 = .ok (.iload_n 2, 1) := by decide +kernel
theorem dX0_greatestDread_28 : decode cX0_greatestDread 28 = .ok (.ireturn, 1) := by decide +kernel
theorem dX0_dreadInAll_0 : decode cX0_dreadInAll 0 = .ok (.iconst 0, 1) := by decide +kernel
theorem dX0_dreadInAll_1 : decode cX0_dreadInAll 1 = .ok (.istore_n 2, 1) := by decide +kernel
theorem dX0_dreadInAll_2 : decode cX0_dreadInAll 2 = .ok (.iconst 0, 1) := by decide +kernel
theorem dX0_dreadInAll_3 : decode cX0_dreadInAll 3 = .ok (.istore_n 3, 1) := by decide +kernel
theorem dX0_dreadInAll_4 : decode cX0_dreadInAll 4 = .ok (.iload_n 3, 1) := by decide +kernel
theorem dX0_dreadInAll_5 : decode cX0_dreadInAll 5 = .ok (.bipush 16, 2) := by decide +kernel
theorem dX0_dreadInAll_7 : decode cX0_dreadInAll 7 = .ok (.if_icmp .ge 18, 3) := by decide +kernel
theorem dX0_dreadInAll_10 : decode cX0_dreadInAll 10 = .ok (.iload_n 2, 1) := by decide +kernel
theorem dX0_dreadInAll_11 : decode cX0_dreadInAll 11 = .ok (.aload_n 0, 1) := by decide +kernel
theorem dX0_dreadInAll_12 : decode cX0_dreadInAll 12 = .ok (.iload_n 1, 1) := by decide +kernel
theorem dX0_dreadInAll_13 : decode cX0_dreadInAll 13 = .ok (.iload_n 3, 1) := by decide +kernel
theorem dX0_dreadInAll_14 : decode cX0_dreadInAll 14 = .ok (.invokevirtual 50, 3) := by decide +kernel
theorem dX0_dreadInAll_17 : decode cX0_dreadInAll 17 = .ok (.iadd, 1) := by decide +kernel
theorem dX0_dreadInAll_18 : decode cX0_dreadInAll 18 = .ok (.istore_n 2, 1) := by decide +kernel
theorem dX0_dreadInAll_19 : decode cX0_dreadInAll 19 = .ok (.iinc 3 1, 3) := by decide +kernel
theorem dX0_dreadInAll_22 : decode cX0_dreadInAll 22 = .ok (.goto (-18), 3) := by decide +kernel
theorem dX0_dreadInAll_25 : decode cX0_dreadInAll 25 = .ok (.iload_n 2, 1) := by decide +kernel
theorem dX0_dreadInAll_26 : decode cX0_dreadInAll 26 = .ok (.ireturn, 1) := by decide +kernel
theorem dX0_fearOf_0 : decode cX0_fearOf 0 = .ok (.aload_n 0, 1) := by decide +kernel
theorem dX0_fearOf_1 : decode cX0_fearOf 1 = .ok (.iload_n 1, 1) := by decide +kernel
theorem dX0_fearOf_2 : decode cX0_fearOf 2 = .ok (.invokevirtual 59, 3) := by decide +kernel
theorem dX0_fearOf_5 : decode cX0_fearOf 5 = .ok (.istore_n 2, 1) := by decide +kernel
theorem dX0_fearOf_6 : decode cX0_fearOf 6 = .ok (.iload_n 2, 1) := by decide +kernel
theorem dX0_fearOf_7 : decode cX0_fearOf 7 = .ok (.ifCond .ne 6, 3) := by decide +kernel
theorem dX0_fearOf_10 : decode cX0_fearOf 10 = .ok (.bipush (-2), 2) := by decide +kernel
theorem dX0_fearOf_12 : decode cX0_fearOf 12 = .ok (.ireturn, 1) := by decide +kernel
theorem dX0_fearOf_13 : decode cX0_fearOf 13 = .ok (.bipush (-2), 2) := by decide +kernel
theorem dX0_fearOf_15 : decode cX0_fearOf 15 = .ok (.istore_n 3, 1) := by decide +kernel
theorem dX0_fearOf_16 : decode cX0_fearOf 16 = .ok (.iconst 0, 1) := by decide +kernel
theorem dX0_fearOf_17 : decode cX0_fearOf 17 = .ok (.istore 4, 2) := by decide +kernel
theorem dX0_fearOf_19 : decode cX0_fearOf 19 = .ok (.iload 4, 2) := by decide +kernel
theorem dX0_fearOf_21 : decode cX0_fearOf 21 = .ok (.bipush 16, 2) := by decide +kernel
theorem dX0_fearOf_23 : decode cX0_fearOf 23 = .ok (.if_icmp .ge 30, 3) := by decide +kernel
theorem dX0_fearOf_26 : decode cX0_fearOf 26 = .ok (.aload_n 0, 1) := by decide +kernel
theorem dX0_fearOf_27 : decode cX0_fearOf 27 = .ok (.iload_n 1, 1) := by decide +kernel
theorem dX0_fearOf_28 : decode cX0_fearOf 28 = .ok (.iload 4, 2) := by decide +kernel
theorem dX0_fearOf_30 : decode cX0_fearOf 30 = .ok (.invokevirtual 50, 3) := by decide +kernel
theorem dX0_fearOf_33 : decode cX0_fearOf 33 = .ok (.iload_n 2, 1) := by decide +kernel
theorem dX0_fearOf_34 : decode cX0_fearOf 34 = .ok (.if_icmp .ne 13, 3) := by decide +kernel
theorem dX0_fearOf_37 : decode cX0_fearOf 37 = .ok (.iload_n 3, 1) := by decide +kernel
theorem dX0_fearOf_38 : decode cX0_fearOf 38 = .ok (.ifCond .lt 6, 3) := by decide +kernel
theorem dX0_fearOf_41 : decode cX0_fearOf 41 = .ok (.bipush (-2), 2) := by decide +kernel
theorem dX0_fearOf_43 : decode cX0_fearOf 43 = .ok (.ireturn, 1) := by decide +kernel
theorem dX0_fearOf_44 : decode cX0_fearOf 44 = .ok (.iload 4, 2) := by decide +kernel
theorem dX0_fearOf_46 : decode cX0_fearOf 46 = .ok (.istore_n 3, 1) := by decide +kernel
theorem dX0_fearOf_47 : decode cX0_fearOf 47 = .ok (.iinc 4 1, 3) := by decide +kernel
theorem dX0_fearOf_50 : decode cX0_fearOf 50 = .ok (.goto (-31), 3) := by decide +kernel
theorem dX0_fearOf_53 : decode cX0_fearOf 53 = .ok (.iload_n 3, 1) := by decide +kernel
theorem dX0_fearOf_54 : decode cX0_fearOf 54 = .ok (.ireturn, 1) := by decide +kernel
theorem dX0_havingFear_0 : decode cX0_havingFear 0 = .ok (.iconst 0, 1) := by decide +kernel
theorem dX0_havingFear_1 : decode cX0_havingFear 1 = .ok (.istore_n 2, 1) := by decide +kernel
theorem dX0_havingFear_2 : decode cX0_havingFear 2 = .ok (.iconst 0, 1) := by decide +kernel
theorem dX0_havingFear_3 : decode cX0_havingFear 3 = .ok (.istore_n 3, 1) := by decide +kernel
theorem dX0_havingFear_4 : decode cX0_havingFear 4 = .ok (.iload_n 3, 1) := by decide +kernel
theorem dX0_havingFear_5 : decode cX0_havingFear 5 = .ok (.bipush 12, 2) := by decide +kernel
theorem dX0_havingFear_7 : decode cX0_havingFear 7 = .ok (.if_icmp .ge 24, 3) := by decide +kernel
theorem dX0_havingFear_10 : decode cX0_havingFear 10 = .ok (.aload_n 0, 1) := by decide +kernel
theorem dX0_havingFear_11 : decode cX0_havingFear 11 = .ok (.iload_n 3, 1) := by decide +kernel
theorem dX0_havingFear_12 : decode cX0_havingFear 12 = .ok (.invokevirtual 63, 3) := by decide +kernel
theorem dX0_havingFear_15 : decode cX0_havingFear 15 = .ok (.iload_n 1, 1) := by decide +kernel
theorem dX0_havingFear_16 : decode cX0_havingFear 16 = .ok (.if_icmp .ne 9, 3) := by decide +kernel
theorem dX0_havingFear_19 : decode cX0_havingFear 19 = .ok (.iload_n 2, 1) := by decide +kernel
theorem dX0_havingFear_20 : decode cX0_havingFear 20 = .ok (.iconst 1, 1) := by decide +kernel
theorem dX0_havingFear_21 : decode cX0_havingFear 21 = .ok (.iload_n 3, 1) := by decide +kernel
theorem dX0_havingFear_22 : decode cX0_havingFear 22 = .ok (.ishl, 1) := by decide +kernel
theorem dX0_havingFear_23 : decode cX0_havingFear 23 = .ok (.ior, 1) := by decide +kernel
theorem dX0_havingFear_24 : decode cX0_havingFear 24 = .ok (.istore_n 2, 1) := by decide +kernel
theorem dX0_havingFear_25 : decode cX0_havingFear 25 = .ok (.iinc 3 1, 3) := by decide +kernel
theorem dX0_havingFear_28 : decode cX0_havingFear 28 = .ok (.goto (-24), 3) := by decide +kernel
theorem dX0_havingFear_31 : decode cX0_havingFear 31 = .ok (.iload_n 2, 1) := by decide +kernel
theorem dX0_havingFear_32 : decode cX0_havingFear 32 = .ok (.ireturn, 1) := by decide +kernel
theorem dX0_nobodysFears_0 : decode cX0_nobodysFears 0 = .ok (.ldc 66, 2) := by decide +kernel
theorem dX0_nobodysFears_2 : decode cX0_nobodysFears 2 = .ok (.istore_n 1, 1) := by decide +kernel
theorem dX0_nobodysFears_3 : decode cX0_nobodysFears 3 = .ok (.iconst 0, 1) := by decide +kernel
theorem dX0_nobodysFears_4 : decode cX0_nobodysFears 4 = .ok (.istore_n 2, 1) := by decide +kernel
theorem dX0_nobodysFears_5 : decode cX0_nobodysFears 5 = .ok (.iload_n 2, 1) := by decide +kernel
theorem dX0_nobodysFears_6 : decode cX0_nobodysFears 6 = .ok (.bipush 12, 2) := by decide +kernel
theorem dX0_nobodysFears_8 : decode cX0_nobodysFears 8 = .ok (.if_icmp .ge 20, 3) := by decide +kernel
theorem dX0_nobodysFears_11 : decode cX0_nobodysFears 11 = .ok (.iload_n 1, 1) := by decide +kernel
theorem dX0_nobodysFears_12 : decode cX0_nobodysFears 12 = .ok (.aload_n 0, 1) := by decide +kernel
theorem dX0_nobodysFears_13 : decode cX0_nobodysFears 13 = .ok (.iload_n 2, 1) := by decide +kernel
theorem dX0_nobodysFears_14 : decode cX0_nobodysFears 14 = .ok (.iconst 1, 1) := by decide +kernel
theorem dX0_nobodysFears_15 : decode cX0_nobodysFears 15 = .ok (.invokevirtual 67, 3) := by decide +kernel
theorem dX0_nobodysFears_18 : decode cX0_nobodysFears 18 = .ok (.iconst (-1), 1) := by decide +kernel
theorem dX0_nobodysFears_19 : decode cX0_nobodysFears 19 = .ok (.ixor, 1) := by decide +kernel
theorem dX0_nobodysFears_20 : decode cX0_nobodysFears 20 = .ok (.iand, 1) := by decide +kernel
theorem dX0_nobodysFears_21 : decode cX0_nobodysFears 21 = .ok (.istore_n 1, 1) := by decide +kernel
theorem dX0_nobodysFears_22 : decode cX0_nobodysFears 22 = .ok (.iinc 2 1, 3) := by decide +kernel
theorem dX0_nobodysFears_25 : decode cX0_nobodysFears 25 = .ok (.goto (-20), 3) := by decide +kernel
theorem dX0_nobodysFears_28 : decode cX0_nobodysFears 28 = .ok (.iload_n 1, 1) := by decide +kernel
theorem dX0_nobodysFears_29 : decode cX0_nobodysFears 29 = .ok (.ireturn, 1) := by decide +kernel
theorem dX0_allsFears_0 : decode cX0_allsFears 0 = .ok (.ldc 66, 2) := by decide +kernel
theorem dX0_allsFears_2 : decode cX0_allsFears 2 = .ok (.istore_n 1, 1) := by decide +kernel
theorem dX0_allsFears_3 : decode cX0_allsFears 3 = .ok (.iconst 0, 1) := by decide +kernel
theorem dX0_allsFears_4 : decode cX0_allsFears 4 = .ok (.istore_n 2, 1) := by decide +kernel
theorem dX0_allsFears_5 : decode cX0_allsFears 5 = .ok (.iload_n 2, 1) := by decide +kernel
theorem dX0_allsFears_6 : decode cX0_allsFears 6 = .ok (.bipush 12, 2) := by decide +kernel
theorem dX0_allsFears_8 : decode cX0_allsFears 8 = .ok (.if_icmp .ge 26, 3) := by decide +kernel
theorem dX0_allsFears_11 : decode cX0_allsFears 11 = .ok (.aload_n 0, 1) := by decide +kernel
theorem dX0_allsFears_12 : decode cX0_allsFears 12 = .ok (.iload_n 2, 1) := by decide +kernel
theorem dX0_allsFears_13 : decode cX0_allsFears 13 = .ok (.invokevirtual 70, 3) := by decide +kernel
theorem dX0_allsFears_16 : decode cX0_allsFears 16 = .ok (.ifCond .eq 12, 3) := by decide +kernel
theorem dX0_allsFears_19 : decode cX0_allsFears 19 = .ok (.iload_n 1, 1) := by decide +kernel
theorem dX0_allsFears_20 : decode cX0_allsFears 20 = .ok (.aload_n 0, 1) := by decide +kernel
theorem dX0_allsFears_21 : decode cX0_allsFears 21 = .ok (.iload_n 2, 1) := by decide +kernel
theorem dX0_allsFears_22 : decode cX0_allsFears 22 = .ok (.iconst 1, 1) := by decide +kernel
theorem dX0_allsFears_23 : decode cX0_allsFears 23 = .ok (.invokevirtual 67, 3) := by decide +kernel
theorem dX0_allsFears_26 : decode cX0_allsFears 26 = .ok (.iand, 1) := by decide +kernel
theorem dX0_allsFears_27 : decode cX0_allsFears 27 = .ok (.istore_n 1, 1) := by decide +kernel
theorem dX0_allsFears_28 : decode cX0_allsFears 28 = .ok (.iinc 2 1, 3) := by decide +kernel
theorem dX0_allsFears_31 : decode cX0_allsFears 31 = .ok (.goto (-26), 3) := by decide +kernel
theorem dX0_allsFears_34 : decode cX0_allsFears 34 = .ok (.iload_n 1, 1) := by decide +kernel
theorem dX0_allsFears_35 : decode cX0_allsFears 35 = .ok (.ireturn, 1) := by decide +kernel
theorem dX0_fearsFrom_0 : decode cX0_fearsFrom 0 = .ok (.iconst 0, 1) := by decide +kernel
theorem dX0_fearsFrom_1 : decode cX0_fearsFrom 1 = .ok (.istore_n 3, 1) := by decide +kernel
theorem dX0_fearsFrom_2 : decode cX0_fearsFrom 2 = .ok (.iconst 0, 1) := by decide +kernel
theorem dX0_fearsFrom_3 : decode cX0_fearsFrom 3 = .ok (.istore 4, 2) := by decide +kernel
theorem dX0_fearsFrom_5 : decode cX0_fearsFrom 5 = .ok (.iload 4, 2) := by decide +kernel
theorem dX0_fearsFrom_7 : decode cX0_fearsFrom 7 = .ok (.bipush 16, 2) := by decide +kernel
theorem dX0_fearsFrom_9 : decode cX0_fearsFrom 9 = .ok (.if_icmp .ge 27, 3) := by decide +kernel
theorem dX0_fearsFrom_12 : decode cX0_fearsFrom 12 = .ok (.aload_n 0, 1) := by decide +kernel
theorem dX0_fearsFrom_13 : decode cX0_fearsFrom 13 = .ok (.iload_n 1, 1) := by decide +kernel
theorem dX0_fearsFrom_14 : decode cX0_fearsFrom 14 = .ok (.iload 4, 2) := by decide +kernel
theorem dX0_fearsFrom_16 : decode cX0_fearsFrom 16 = .ok (.invokevirtual 50, 3) := by decide +kernel
theorem dX0_fearsFrom_19 : decode cX0_fearsFrom 19 = .ok (.iload_n 2, 1) := by decide +kernel
theorem dX0_fearsFrom_20 : decode cX0_fearsFrom 20 = .ok (.if_icmp .lt 10, 3) := by decide +kernel
theorem dX0_fearsFrom_23 : decode cX0_fearsFrom 23 = .ok (.iload_n 3, 1) := by decide +kernel
theorem dX0_fearsFrom_24 : decode cX0_fearsFrom 24 = .ok (.iconst 1, 1) := by decide +kernel
theorem dX0_fearsFrom_25 : decode cX0_fearsFrom 25 = .ok (.iload 4, 2) := by decide +kernel
theorem dX0_fearsFrom_27 : decode cX0_fearsFrom 27 = .ok (.ishl, 1) := by decide +kernel
theorem dX0_fearsFrom_28 : decode cX0_fearsFrom 28 = .ok (.ior, 1) := by decide +kernel
theorem dX0_fearsFrom_29 : decode cX0_fearsFrom 29 = .ok (.istore_n 3, 1) := by decide +kernel
theorem dX0_fearsFrom_30 : decode cX0_fearsFrom 30 = .ok (.iinc 4 1, 3) := by decide +kernel
theorem dX0_fearsFrom_33 : decode cX0_fearsFrom 33 = .ok (.goto (-28), 3) := by decide +kernel
theorem dX0_fearsFrom_36 : decode cX0_fearsFrom 36 = .ok (.iload_n 3, 1) := by decide +kernel
theorem dX0_fearsFrom_37 : decode cX0_fearsFrom 37 = .ok (.ireturn, 1) := by decide +kernel
theorem dX0_knownTo_0 : decode cX0_knownTo 0 = .ok (.iload_n 1, 1) := by decide +kernel
theorem dX0_knownTo_1 : decode cX0_knownTo 1 = .ok (.ifCond .lt 18, 3) := by decide +kernel
theorem dX0_knownTo_4 : decode cX0_knownTo 4 = .ok (.iload_n 1, 1) := by decide +kernel
theorem dX0_knownTo_5 : decode cX0_knownTo 5 = .ok (.bipush 12, 2) := by decide +kernel
theorem dX0_knownTo_7 : decode cX0_knownTo 7 = .ok (.if_icmp .ge 12, 3) := by decide +kernel
theorem dX0_knownTo_10 : decode cX0_knownTo 10 = .ok (.aload_n 0, 1) := by decide +kernel
theorem dX0_knownTo_11 : decode cX0_knownTo 11 = .ok (.getfield 16, 3) := by decide +kernel
theorem dX0_knownTo_14 : decode cX0_knownTo 14 = .ok (.iload_n 1, 1) := by decide +kernel
theorem dX0_knownTo_15 : decode cX0_knownTo 15 = .ok (.iaload, 1) := by decide +kernel
theorem dX0_knownTo_16 : decode cX0_knownTo 16 = .ok (.goto 4, 3) := by decide +kernel
theorem dX0_knownTo_19 : decode cX0_knownTo 19 = .ok (.iconst 0, 1) := by decide +kernel
theorem dX0_knownTo_20 : decode cX0_knownTo 20 = .ok (.ireturn, 1) := by decide +kernel
theorem dX0_acquaint_0 : decode cX0_acquaint 0 = .ok (.iload_n 1, 1) := by decide +kernel
theorem dX0_acquaint_1 : decode cX0_acquaint 1 = .ok (.ifCond .lt 19, 3) := by decide +kernel
theorem dX0_acquaint_4 : decode cX0_acquaint 4 = .ok (.iload_n 1, 1) := by decide +kernel
theorem dX0_acquaint_5 : decode cX0_acquaint 5 = .ok (.bipush 12, 2) := by decide +kernel
theorem dX0_acquaint_7 : decode cX0_acquaint 7 = .ok (.if_icmp .ge 13, 3) := by decide +kernel
theorem dX0_acquaint_10 : decode cX0_acquaint 10 = .ok (.iload_n 2, 1) := by decide +kernel
theorem dX0_acquaint_11 : decode cX0_acquaint 11 = .ok (.ifCond .lt 9, 3) := by decide +kernel
theorem dX0_acquaint_14 : decode cX0_acquaint 14 = .ok (.iload_n 2, 1) := by decide +kernel
theorem dX0_acquaint_15 : decode cX0_acquaint 15 = .ok (.bipush 12, 2) := by decide +kernel
theorem dX0_acquaint_17 : decode cX0_acquaint 17 = .ok (.if_icmp .lt 4, 3) := by decide +kernel
theorem dX0_acquaint_20 : decode cX0_acquaint 20 = .ok (.return_, 1) := by decide +kernel
theorem dX0_acquaint_21 : decode cX0_acquaint 21 = .ok (.iload_n 3, 1) := by decide +kernel
theorem dX0_acquaint_22 : decode cX0_acquaint 22 = .ok (.ifCond .eq 30, 3) := by decide +kernel
theorem dX0_acquaint_25 : decode cX0_acquaint 25 = .ok (.aload_n 0, 1) := by decide +kernel
theorem dX0_acquaint_26 : decode cX0_acquaint 26 = .ok (.getfield 16, 3) := by decide +kernel
theorem dX0_acquaint_29 : decode cX0_acquaint 29 = .ok (.iload_n 1, 1) := by decide +kernel
theorem dX0_acquaint_30 : decode cX0_acquaint 30 = .ok (.dup2, 1) := by decide +kernel
theorem dX0_acquaint_31 : decode cX0_acquaint 31 = .ok (.iaload, 1) := by decide +kernel
theorem dX0_acquaint_32 : decode cX0_acquaint 32 = .ok (.iconst 1, 1) := by decide +kernel
theorem dX0_acquaint_33 : decode cX0_acquaint 33 = .ok (.iload_n 2, 1) := by decide +kernel
theorem dX0_acquaint_34 : decode cX0_acquaint 34 = .ok (.ishl, 1) := by decide +kernel
theorem dX0_acquaint_35 : decode cX0_acquaint 35 = .ok (.ior, 1) := by decide +kernel
theorem dX0_acquaint_36 : decode cX0_acquaint 36 = .ok (.iastore, 1) := by decide +kernel
theorem dX0_acquaint_37 : decode cX0_acquaint 37 = .ok (.aload_n 0, 1) := by decide +kernel
theorem dX0_acquaint_38 : decode cX0_acquaint 38 = .ok (.getfield 16, 3) := by decide +kernel
theorem dX0_acquaint_41 : decode cX0_acquaint 41 = .ok (.iload_n 2, 1) := by decide +kernel
theorem dX0_acquaint_42 : decode cX0_acquaint 42 = .ok (.dup2, 1) := by decide +kernel
theorem dX0_acquaint_43 : decode cX0_acquaint 43 = .ok (.iaload, 1) := by decide +kernel
theorem dX0_acquaint_44 : decode cX0_acquaint 44 = .ok (.iconst 1, 1) := by decide +kernel
theorem dX0_acquaint_45 : decode cX0_acquaint 45 = .ok (.iload_n 1, 1) := by decide +kernel
theorem dX0_acquaint_46 : decode cX0_acquaint 46 = .ok (.ishl, 1) := by decide +kernel
theorem dX0_acquaint_47 : decode cX0_acquaint 47 = .ok (.ior, 1) := by decide +kernel
theorem dX0_acquaint_48 : decode cX0_acquaint 48 = .ok (.iastore, 1) := by decide +kernel
theorem dX0_acquaint_49 : decode cX0_acquaint 49 = .ok (.goto 31, 3) := by decide +kernel
theorem dX0_acquaint_52 : decode cX0_acquaint 52 = .ok (.aload_n 0, 1) := by decide +kernel
theorem dX0_acquaint_53 : decode cX0_acquaint 53 = .ok (.getfield 16, 3) := by decide +kernel
theorem dX0_acquaint_56 : decode cX0_acquaint 56 = .ok (.iload_n 1, 1) := by decide +kernel
theorem dX0_acquaint_57 : decode cX0_acquaint 57 = .ok (.dup2, 1) := by decide +kernel
theorem dX0_acquaint_58 : decode cX0_acquaint 58 = .ok (.iaload, 1) := by decide +kernel
theorem dX0_acquaint_59 : decode cX0_acquaint 59 = .ok (.iconst 1, 1) := by decide +kernel
theorem dX0_acquaint_60 : decode cX0_acquaint 60 = .ok (.iload_n 2, 1) := by decide +kernel
theorem dX0_acquaint_61 : decode cX0_acquaint 61 = .ok (.ishl, 1) := by decide +kernel
theorem dX0_acquaint_62 : decode cX0_acquaint 62 = .ok (.iconst (-1), 1) := by decide +kernel
theorem dX0_acquaint_63 : decode cX0_acquaint 63 = .ok (.ixor, 1) := by decide +kernel
theorem dX0_acquaint_64 : decode cX0_acquaint 64 = .ok (.iand, 1) := by decide +kernel
theorem dX0_acquaint_65 : decode cX0_acquaint 65 = .ok (.iastore, 1) := by decide +kernel
theorem dX0_acquaint_66 : decode cX0_acquaint 66 = .ok (.aload_n 0, 1) := by decide +kernel
theorem dX0_acquaint_67 : decode cX0_acquaint 67 = .ok (.getfield 16, 3) := by decide +kernel
theorem dX0_acquaint_70 : decode cX0_acquaint 70 = .ok (.iload_n 2, 1) := by decide +kernel
theorem dX0_acquaint_71 : decode cX0_acquaint 71 = .ok (.dup2, 1) := by decide +kernel
theorem dX0_acquaint_72 : decode cX0_acquaint 72 = .ok (.iaload, 1) := by decide +kernel
theorem dX0_acquaint_73 : decode cX0_acquaint 73 = .ok (.iconst 1, 1) := by decide +kernel
theorem dX0_acquaint_74 : decode cX0_acquaint 74 = .ok (.iload_n 1, 1) := by decide +kernel
theorem dX0_acquaint_75 : decode cX0_acquaint 75 = .ok (.ishl, 1) := by decide +kernel
theorem dX0_acquaint_76 : decode cX0_acquaint 76 = .ok (.iconst (-1), 1) := by decide +kernel
theorem dX0_acquaint_77 : decode cX0_acquaint 77 = .ok (.ixor, 1) := by decide +kernel
theorem dX0_acquaint_78 : decode cX0_acquaint 78 = .ok (.iand, 1) := by decide +kernel
theorem dX0_acquaint_79 : decode cX0_acquaint 79 = .ok (.iastore, 1) := by decide +kernel
theorem dX0_acquaint_80 : decode cX0_acquaint 80 = .ok (.return_, 1) := by decide +kernel
theorem dX0_acquaintances_0 : decode cX0_acquaintances 0 = .ok (.iconst 0, 1) := by decide +kernel
theorem dX0_acquaintances_1 : decode cX0_acquaintances 1 = .ok (.istore_n 1, 1) := by decide +kernel
theorem dX0_acquaintances_2 : decode cX0_acquaintances 2 = .ok (.iconst 0, 1) := by decide +kernel
theorem dX0_acquaintances_3 : decode cX0_acquaintances 3 = .ok (.istore_n 2, 1) := by decide +kernel
theorem dX0_acquaintances_4 : decode cX0_acquaintances 4 = .ok (.iload_n 2, 1) := by decide +kernel
theorem dX0_acquaintances_5 : decode cX0_acquaintances 5 = .ok (.bipush 12, 2) := by decide +kernel
theorem dX0_acquaintances_7 : decode cX0_acquaintances 7 = .ok (.if_icmp .ge 21, 3) := by decide +kernel
theorem dX0_acquaintances_10 : decode cX0_acquaintances 10 = .ok (.iload_n 1, 1) := by decide +kernel
theorem dX0_acquaintances_11 : decode cX0_acquaintances 11 = .ok (.aload_n 0, 1) := by decide +kernel
theorem dX0_acquaintances_12 : decode cX0_acquaintances 12 = .ok (.getfield 16, 3) := by decide +kernel
theorem dX0_acquaintances_15 : decode cX0_acquaintances 15 = .ok (.iload_n 2, 1) := by decide +kernel
theorem dX0_acquaintances_16 : decode cX0_acquaintances 16 = .ok (.iaload, 1) := by decide +kernel
theorem dX0_acquaintances_17 : decode cX0_acquaintances 17 = .ok (.invokestatic 74, 3) := by decide +kernel
theorem dX0_acquaintances_20 : decode cX0_acquaintances 20 = .ok (.iadd, 1) := by decide +kernel
theorem dX0_acquaintances_21 : decode cX0_acquaintances 21 = .ok (.istore_n 1, 1) := by decide +kernel
theorem dX0_acquaintances_22 : decode cX0_acquaintances 22 = .ok (.iinc 2 1, 3) := by decide +kernel
theorem dX0_acquaintances_25 : decode cX0_acquaintances 25 = .ok (.goto (-21), 3) := by decide +kernel
theorem dX0_acquaintances_28 : decode cX0_acquaintances 28 = .ok (.iload_n 1, 1) := by decide +kernel
theorem dX0_acquaintances_29 : decode cX0_acquaintances 29 = .ok (.iconst 2, 1) := by decide +kernel
theorem dX0_acquaintances_30 : decode cX0_acquaintances 30 = .ok (.idiv, 1) := by decide +kernel
theorem dX0_acquaintances_31 : decode cX0_acquaintances 31 = .ok (.ireturn, 1) := by decide +kernel
theorem dX0_tellDoor_0 : decode cX0_tellDoor 0 = .ok (.iload_n 1, 1) := by decide +kernel
theorem dX0_tellDoor_1 : decode cX0_tellDoor 1 = .ok (.ifCond .lt 42, 3) := by decide +kernel
theorem dX0_tellDoor_4 : decode cX0_tellDoor 4 = .ok (.iload_n 1, 1) := by decide +kernel
theorem dX0_tellDoor_5 : decode cX0_tellDoor 5 = .ok (.bipush 16, 2) := by decide +kernel
theorem dX0_tellDoor_7 : decode cX0_tellDoor 7 = .ok (.if_icmp .ge 36, 3) := by decide +kernel
theorem dX0_tellDoor_10 : decode cX0_tellDoor 10 = .ok (.aload_n 0, 1) := by decide +kernel
theorem dX0_tellDoor_11 : decode cX0_tellDoor 11 = .ok (.dup, 1) := by decide +kernel
theorem dX0_tellDoor_12 : decode cX0_tellDoor 12 = .ok (.getfield 33, 3) := by decide +kernel
theorem dX0_tellDoor_15 : decode cX0_tellDoor 15 = .ok (.iconst 1, 1) := by decide +kernel
theorem dX0_tellDoor_16 : decode cX0_tellDoor 16 = .ok (.iload_n 1, 1) := by decide +kernel
theorem dX0_tellDoor_17 : decode cX0_tellDoor 17 = .ok (.ishl, 1) := by decide +kernel
theorem dX0_tellDoor_18 : decode cX0_tellDoor 18 = .ok (.ior, 1) := by decide +kernel
theorem dX0_tellDoor_19 : decode cX0_tellDoor 19 = .ok (.putfield 33, 3) := by decide +kernel
theorem dX0_tellDoor_22 : decode cX0_tellDoor 22 = .ok (.aload_n 0, 1) := by decide +kernel
theorem dX0_tellDoor_23 : decode cX0_tellDoor 23 = .ok (.getfield 20, 3) := by decide +kernel
theorem dX0_tellDoor_26 : decode cX0_tellDoor 26 = .ok (.iload_n 1, 1) := by decide +kernel
theorem dX0_tellDoor_27 : decode cX0_tellDoor 27 = .ok (.iload_n 2, 1) := by decide +kernel
theorem dX0_tellDoor_28 : decode cX0_tellDoor 28 = .ok (.iastore, 1) := by decide +kernel
theorem dX0_tellDoor_29 : decode cX0_tellDoor 29 = .ok (.aload_n 0, 1) := by decide +kernel
theorem dX0_tellDoor_30 : decode cX0_tellDoor 30 = .ok (.getfield 23, 3) := by decide +kernel
theorem dX0_tellDoor_33 : decode cX0_tellDoor 33 = .ok (.iload_n 1, 1) := by decide +kernel
theorem dX0_tellDoor_34 : decode cX0_tellDoor 34 = .ok (.iload_n 3, 1) := by decide +kernel
theorem dX0_tellDoor_35 : decode cX0_tellDoor 35 = .ok (.iastore, 1) := by decide +kernel
theorem dX0_tellDoor_36 : decode cX0_tellDoor 36 = .ok (.aload_n 0, 1) := by decide +kernel
theorem dX0_tellDoor_37 : decode cX0_tellDoor 37 = .ok (.getfield 26, 3) := by decide +kernel
theorem dX0_tellDoor_40 : decode cX0_tellDoor 40 = .ok (.iload_n 1, 1) := by decide +kernel
theorem dX0_tellDoor_41 : decode cX0_tellDoor 41 = .ok (.iconst 0, 1) := by decide +kernel
theorem dX0_tellDoor_42 : decode cX0_tellDoor 42 = .ok (.iastore, 1) := by decide +kernel
theorem dX0_tellDoor_43 : decode cX0_tellDoor 43 = .ok (.return_, 1) := by decide +kernel
theorem dX0_dropDoor_0 : decode cX0_dropDoor 0 = .ok (.iload_n 1, 1) := by decide +kernel
theorem dX0_dropDoor_1 : decode cX0_dropDoor 1 = .ok (.ifCond .lt 30, 3) := by decide +kernel
theorem dX0_dropDoor_4 : decode cX0_dropDoor 4 = .ok (.iload_n 1, 1) := by decide +kernel
theorem dX0_dropDoor_5 : decode cX0_dropDoor 5 = .ok (.bipush 16, 2) := by decide +kernel
theorem dX0_dropDoor_7 : decode cX0_dropDoor 7 = .ok (.if_icmp .ge 24, 3) := by decide +kernel
theorem dX0_dropDoor_10 : decode cX0_dropDoor 10 = .ok (.aload_n 0, 1) := by decide +kernel
theorem dX0_dropDoor_11 : decode cX0_dropDoor 11 = .ok (.dup, 1) := by decide +kernel
theorem dX0_dropDoor_12 : decode cX0_dropDoor 12 = .ok (.getfield 33, 3) := by decide +kernel
theorem dX0_dropDoor_15 : decode cX0_dropDoor 15 = .ok (.iconst 1, 1) := by decide +kernel
theorem dX0_dropDoor_16 : decode cX0_dropDoor 16 = .ok (.iload_n 1, 1) := by decide +kernel
theorem dX0_dropDoor_17 : decode cX0_dropDoor 17 = .ok (.ishl, 1) := by decide +kernel
theorem dX0_dropDoor_18 : decode cX0_dropDoor 18 = .ok (.iconst (-1), 1) := by decide +kernel
theorem dX0_dropDoor_19 : decode cX0_dropDoor 19 = .ok (.ixor, 1) := by decide +kernel
theorem dX0_dropDoor_20 : decode cX0_dropDoor 20 = .ok (.iand, 1) := by decide +kernel
theorem dX0_dropDoor_21 : decode cX0_dropDoor 21 = .ok (.putfield 33, 3) := by decide +kernel
theorem dX0_dropDoor_24 : decode cX0_dropDoor 24 = .ok (.aload_n 0, 1) := by decide +kernel
theorem dX0_dropDoor_25 : decode cX0_dropDoor 25 = .ok (.getfield 26, 3) := by decide +kernel
theorem dX0_dropDoor_28 : decode cX0_dropDoor 28 = .ok (.iload_n 1, 1) := by decide +kernel
theorem dX0_dropDoor_29 : decode cX0_dropDoor 29 = .ok (.iconst 0, 1) := by decide +kernel
theorem dX0_dropDoor_30 : decode cX0_dropDoor 30 = .ok (.iastore, 1) := by decide +kernel
theorem dX0_dropDoor_31 : decode cX0_dropDoor 31 = .ok (.return_, 1) := by decide +kernel
theorem dX0_opens_0 : decode cX0_opens 0 = .ok (.aload_n 0, 1) := by decide +kernel
theorem dX0_opens_1 : decode cX0_opens 1 = .ok (.iload_n 1, 1) := by decide +kernel
theorem dX0_opens_2 : decode cX0_opens 2 = .ok (.invokevirtual 70, 3) := by decide +kernel
theorem dX0_opens_5 : decode cX0_opens 5 = .ok (.ifCond .eq 49, 3) := by decide +kernel
theorem dX0_opens_8 : decode cX0_opens 8 = .ok (.aload_n 0, 1) := by decide +kernel
theorem dX0_opens_9 : decode cX0_opens 9 = .ok (.iload_n 2, 1) := by decide +kernel
theorem dX0_opens_10 : decode cX0_opens 10 = .ok (.invokevirtual 79, 3) := by decide +kernel
theorem dX0_opens_13 : decode cX0_opens 13 = .ok (.ifCond .eq 41, 3) := by decide +kernel
theorem dX0_opens_16 : decode cX0_opens 16 = .ok (.aload_n 0, 1) := by decide +kernel
theorem dX0_opens_17 : decode cX0_opens 17 = .ok (.iload_n 1, 1) := by decide +kernel
theorem dX0_opens_18 : decode cX0_opens 18 = .ok (.invokevirtual 63, 3) := by decide +kernel
theorem dX0_opens_21 : decode cX0_opens 21 = .ok (.aload_n 0, 1) := by decide +kernel
theorem dX0_opens_22 : decode cX0_opens 22 = .ok (.getfield 20, 3) := by decide +kernel
theorem dX0_opens_25 : decode cX0_opens 25 = .ok (.iload_n 2, 1) := by decide +kernel
theorem dX0_opens_26 : decode cX0_opens 26 = .ok (.iaload, 1) := by decide +kernel
theorem dX0_opens_27 : decode cX0_opens 27 = .ok (.if_icmp .ne 27, 3) := by decide +kernel
theorem dX0_opens_30 : decode cX0_opens 30 = .ok (.aload_n 0, 1) := by decide +kernel
theorem dX0_opens_31 : decode cX0_opens 31 = .ok (.iload_n 1, 1) := by decide +kernel
theorem dX0_opens_32 : decode cX0_opens 32 = .ok (.aload_n 0, 1) := by decide +kernel
theorem dX0_opens_33 : decode cX0_opens 33 = .ok (.getfield 20, 3) := by decide +kernel
theorem dX0_opens_36 : decode cX0_opens 36 = .ok (.iload_n 2, 1) := by decide +kernel
theorem dX0_opens_37 : decode cX0_opens 37 = .ok (.iaload, 1) := by decide +kernel
theorem dX0_opens_38 : decode cX0_opens 38 = .ok (.invokevirtual 50, 3) := by decide +kernel
theorem dX0_opens_41 : decode cX0_opens 41 = .ok (.aload_n 0, 1) := by decide +kernel
theorem dX0_opens_42 : decode cX0_opens 42 = .ok (.getfield 23, 3) := by decide +kernel
theorem dX0_opens_45 : decode cX0_opens 45 = .ok (.iload_n 2, 1) := by decide +kernel
theorem dX0_opens_46 : decode cX0_opens 46 = .ok (.iaload, 1) := by decide +kernel
theorem dX0_opens_47 : decode cX0_opens 47 = .ok (.if_icmp .lt 7, 3) := by decide +kernel
theorem dX0_opens_50 : decode cX0_opens 50 = .ok (.iconst 1, 1) := by decide +kernel
theorem dX0_opens_51 : decode cX0_opens 51 = .ok (.goto 4, 3) := by decide +kernel
theorem dX0_opens_54 : decode cX0_opens 54 = .ok (.iconst 0, 1) := by decide +kernel
theorem dX0_opens_55 : decode cX0_opens 55 = .ok (.ireturn, 1) := by decide +kernel
theorem dX0_doorsOpenTo_0 : decode cX0_doorsOpenTo 0 = .ok (.iconst 0, 1) := by decide +kernel
theorem dX0_doorsOpenTo_1 : decode cX0_doorsOpenTo 1 = .ok (.istore_n 2, 1) := by decide +kernel
theorem dX0_doorsOpenTo_2 : decode cX0_doorsOpenTo 2 = .ok (.iconst 0, 1) := by decide +kernel
theorem dX0_doorsOpenTo_3 : decode cX0_doorsOpenTo 3 = .ok (.istore_n 3, 1) := by decide +kernel
theorem dX0_doorsOpenTo_4 : decode cX0_doorsOpenTo 4 = .ok (.iload_n 3, 1) := by decide +kernel
theorem dX0_doorsOpenTo_5 : decode cX0_doorsOpenTo 5 = .ok (.bipush 16, 2) := by decide +kernel
theorem dX0_doorsOpenTo_7 : decode cX0_doorsOpenTo 7 = .ok (.if_icmp .ge 24, 3) := by decide +kernel
theorem dX0_doorsOpenTo_10 : decode cX0_doorsOpenTo 10 = .ok (.aload_n 0, 1) := by decide +kernel
theorem dX0_doorsOpenTo_11 : decode cX0_doorsOpenTo 11 = .ok (.iload_n 1, 1) := by decide +kernel
theorem dX0_doorsOpenTo_12 : decode cX0_doorsOpenTo 12 = .ok (.iload_n 3, 1) := by decide +kernel
theorem dX0_doorsOpenTo_13 : decode cX0_doorsOpenTo 13 = .ok (.invokevirtual 82, 3) := by decide +kernel
theorem dX0_doorsOpenTo_16 : decode cX0_doorsOpenTo 16 = .ok (.ifCond .eq 9, 3) := by decide +kernel
theorem dX0_doorsOpenTo_19 : decode cX0_doorsOpenTo 19 = .ok (.iload_n 2, 1) := by decide +kernel
theorem dX0_doorsOpenTo_20 : decode cX0_doorsOpenTo 20 = .ok (.iconst 1, 1) := by decide +kernel
theorem dX0_doorsOpenTo_21 : decode cX0_doorsOpenTo 21 = .ok (.iload_n 3, 1) := by decide +kernel
theorem dX0_doorsOpenTo_22 : decode cX0_doorsOpenTo 22 = .ok (.ishl, 1) := by decide +kernel
theorem dX0_doorsOpenTo_23 : decode cX0_doorsOpenTo 23 = .ok (.ior, 1) := by decide +kernel
theorem dX0_doorsOpenTo_24 : decode cX0_doorsOpenTo 24 = .ok (.istore_n 2, 1) := by decide +kernel
theorem dX0_doorsOpenTo_25 : decode cX0_doorsOpenTo 25 = .ok (.iinc 3 1, 3) := by decide +kernel
theorem dX0_doorsOpenTo_28 : decode cX0_doorsOpenTo 28 = .ok (.goto (-24), 3) := by decide +kernel
theorem dX0_doorsOpenTo_31 : decode cX0_doorsOpenTo 31 = .ok (.iload_n 2, 1) := by decide +kernel
theorem dX0_doorsOpenTo_32 : decode cX0_doorsOpenTo 32 = .ok (.ireturn, 1) := by decide +kernel
theorem dX0_openersOf_0 : decode cX0_openersOf 0 = .ok (.iconst 0, 1) := by decide +kernel
theorem dX0_openersOf_1 : decode cX0_openersOf 1 = .ok (.istore_n 2, 1) := by decide +kernel
theorem dX0_openersOf_2 : decode cX0_openersOf 2 = .ok (.iconst 0, 1) := by decide +kernel
theorem dX0_openersOf_3 : decode cX0_openersOf 3 = .ok (.istore_n 3, 1) := by decide +kernel
theorem dX0_openersOf_4 : decode cX0_openersOf 4 = .ok (.iload_n 3, 1) := by decide +kernel
theorem dX0_openersOf_5 : decode cX0_openersOf 5 = .ok (.bipush 12, 2) := by decide +kernel
theorem dX0_openersOf_7 : decode cX0_openersOf 7 = .ok (.if_icmp .ge 24, 3) := by decide +kernel
theorem dX0_openersOf_10 : decode cX0_openersOf 10 = .ok (.aload_n 0, 1) := by decide +kernel
theorem dX0_openersOf_11 : decode cX0_openersOf 11 = .ok (.iload_n 3, 1) := by decide +kernel
theorem dX0_openersOf_12 : decode cX0_openersOf 12 = .ok (.iload_n 1, 1) := by decide +kernel
theorem dX0_openersOf_13 : decode cX0_openersOf 13 = .ok (.invokevirtual 82, 3) := by decide +kernel
theorem dX0_openersOf_16 : decode cX0_openersOf 16 = .ok (.ifCond .eq 9, 3) := by decide +kernel
theorem dX0_openersOf_19 : decode cX0_openersOf 19 = .ok (.iload_n 2, 1) := by decide +kernel
theorem dX0_openersOf_20 : decode cX0_openersOf 20 = .ok (.iconst 1, 1) := by decide +kernel
theorem dX0_openersOf_21 : decode cX0_openersOf 21 = .ok (.iload_n 3, 1) := by decide +kernel
theorem dX0_openersOf_22 : decode cX0_openersOf 22 = .ok (.ishl, 1) := by decide +kernel
theorem dX0_openersOf_23 : decode cX0_openersOf 23 = .ok (.ior, 1) := by decide +kernel
theorem dX0_openersOf_24 : decode cX0_openersOf 24 = .ok (.istore_n 2, 1) := by decide +kernel
theorem dX0_openersOf_25 : decode cX0_openersOf 25 = .ok (.iinc 3 1, 3) := by decide +kernel
theorem dX0_openersOf_28 : decode cX0_openersOf 28 = .ok (.goto (-24), 3) := by decide +kernel
theorem dX0_openersOf_31 : decode cX0_openersOf 31 = .ok (.iload_n 2, 1) := by decide +kernel
theorem dX0_openersOf_32 : decode cX0_openersOf 32 = .ok (.ireturn, 1) := by decide +kernel
theorem dX0_openedOf_0 : decode cX0_openedOf 0 = .ok (.iload_n 1, 1) := by decide +kernel
theorem dX0_openedOf_1 : decode cX0_openedOf 1 = .ok (.ifCond .lt 18, 3) := by decide +kernel
theorem dX0_openedOf_4 : decode cX0_openedOf 4 = .ok (.iload_n 1, 1) := by decide +kernel
theorem dX0_openedOf_5 : decode cX0_openedOf 5 = .ok (.bipush 16, 2) := by decide +kernel
theorem dX0_openedOf_7 : decode cX0_openedOf 7 = .ok (.if_icmp .ge 12, 3) := by decide +kernel
theorem dX0_openedOf_10 : decode cX0_openedOf 10 = .ok (.aload_n 0, 1) := by decide +kernel
theorem dX0_openedOf_11 : decode cX0_openedOf 11 = .ok (.getfield 26, 3) := by decide +kernel
theorem dX0_openedOf_14 : decode cX0_openedOf 14 = .ok (.iload_n 1, 1) := by decide +kernel
theorem dX0_openedOf_15 : decode cX0_openedOf 15 = .ok (.iaload, 1) := by decide +kernel
theorem dX0_openedOf_16 : decode cX0_openedOf 16 = .ok (.goto 4, 3) := by decide +kernel
theorem dX0_openedOf_19 : decode cX0_openedOf 19 = .ok (.iconst 0, 1) := by decide +kernel
theorem dX0_openedOf_20 : decode cX0_openedOf 20 = .ok (.ireturn, 1) := by decide +kernel
theorem dX0_openedInAll_0 : decode cX0_openedInAll 0 = .ok (.iconst 0, 1) := by decide +kernel
theorem dX0_openedInAll_1 : decode cX0_openedInAll 1 = .ok (.istore_n 1, 1) := by decide +kernel
theorem dX0_openedInAll_2 : decode cX0_openedInAll 2 = .ok (.iconst 0, 1) := by decide +kernel
theorem dX0_openedInAll_3 : decode cX0_openedInAll 3 = .ok (.istore_n 2, 1) := by decide +kernel
theorem dX0_openedInAll_4 : decode cX0_openedInAll 4 = .ok (.iload_n 2, 1) := by decide +kernel
theorem dX0_openedInAll_5 : decode cX0_openedInAll 5 = .ok (.bipush 16, 2) := by decide +kernel
theorem dX0_openedInAll_7 : decode cX0_openedInAll 7 = .ok (.if_icmp .ge 18, 3) := by decide +kernel
theorem dX0_openedInAll_10 : decode cX0_openedInAll 10 = .ok (.iload_n 1, 1) := by decide +kernel
theorem dX0_openedInAll_11 : decode cX0_openedInAll 11 = .ok (.aload_n 0, 1) := by decide +kernel
theorem dX0_openedInAll_12 : decode cX0_openedInAll 12 = .ok (.getfield 26, 3) := by decide +kernel
theorem dX0_openedInAll_15 : decode cX0_openedInAll 15 = .ok (.iload_n 2, 1) := by decide +kernel
theorem dX0_openedInAll_16 : decode cX0_openedInAll 16 = .ok (.iaload, 1) := by decide +kernel
theorem dX0_openedInAll_17 : decode cX0_openedInAll 17 = .ok (.iadd, 1) := by decide +kernel
theorem dX0_openedInAll_18 : decode cX0_openedInAll 18 = .ok (.istore_n 1, 1) := by decide +kernel
theorem dX0_openedInAll_19 : decode cX0_openedInAll 19 = .ok (.iinc 2 1, 3) := by decide +kernel
theorem dX0_openedInAll_22 : decode cX0_openedInAll 22 = .ok (.goto (-18), 3) := by decide +kernel
theorem dX0_openedInAll_25 : decode cX0_openedInAll 25 = .ok (.iload_n 1, 1) := by decide +kernel
theorem dX0_openedInAll_26 : decode cX0_openedInAll 26 = .ok (.ireturn, 1) := by decide +kernel
theorem dX0_draw_0 : decode cX0_draw 0 = .ok (.aload_n 0, 1) := by decide +kernel
theorem dX0_draw_1 : decode cX0_draw 1 = .ok (.sipush 25173, 3) := by decide +kernel
theorem dX0_draw_4 : decode cX0_draw 4 = .ok (.aload_n 0, 1) := by decide +kernel
theorem dX0_draw_5 : decode cX0_draw 5 = .ok (.getfield 39, 3) := by decide +kernel
theorem dX0_draw_8 : decode cX0_draw 8 = .ok (.imul, 1) := by decide +kernel
theorem dX0_draw_9 : decode cX0_draw 9 = .ok (.sipush 13849, 3) := by decide +kernel
theorem dX0_draw_12 : decode cX0_draw 12 = .ok (.iadd, 1) := by decide +kernel
theorem dX0_draw_13 : decode cX0_draw 13 = .ok (.ldc 85, 2) := by decide +kernel
theorem dX0_draw_15 : decode cX0_draw 15 = .ok (.irem, 1) := by decide +kernel
theorem dX0_draw_16 : decode cX0_draw 16 = .ok (.putfield 39, 3) := by decide +kernel
theorem dX0_draw_19 : decode cX0_draw 19 = .ok (.aload_n 0, 1) := by decide +kernel
theorem dX0_draw_20 : decode cX0_draw 20 = .ok (.getfield 39, 3) := by decide +kernel
theorem dX0_draw_23 : decode cX0_draw 23 = .ok (.bipush 10, 2) := by decide +kernel
theorem dX0_draw_25 : decode cX0_draw 25 = .ok (.irem, 1) := by decide +kernel
theorem dX0_draw_26 : decode cX0_draw 26 = .ok (.ireturn, 1) := by decide +kernel
theorem dX0_copyFrom_0 : decode cX0_copyFrom 0 = .ok (.aload_n 0, 1) := by decide +kernel
theorem dX0_copyFrom_1 : decode cX0_copyFrom 1 = .ok (.aload_n 1, 1) := by decide +kernel
theorem dX0_copyFrom_2 : decode cX0_copyFrom 2 = .ok (.invokevirtual 86, 3) := by decide +kernel
theorem dX0_copyFrom_5 : decode cX0_copyFrom 5 = .ok (.iconst 0, 1) := by decide +kernel
theorem dX0_copyFrom_6 : decode cX0_copyFrom 6 = .ok (.istore_n 2, 1) := by decide +kernel
theorem dX0_copyFrom_7 : decode cX0_copyFrom 7 = .ok (.iload_n 2, 1) := by decide +kernel
theorem dX0_copyFrom_8 : decode cX0_copyFrom 8 = .ok (.bipush 12, 2) := by decide +kernel
theorem dX0_copyFrom_10 : decode cX0_copyFrom 10 = .ok (.if_icmp .ge 21, 3) := by decide +kernel
theorem dX0_copyFrom_13 : decode cX0_copyFrom 13 = .ok (.aload_n 0, 1) := by decide +kernel
theorem dX0_copyFrom_14 : decode cX0_copyFrom 14 = .ok (.getfield 16, 3) := by decide +kernel
theorem dX0_copyFrom_17 : decode cX0_copyFrom 17 = .ok (.iload_n 2, 1) := by decide +kernel
theorem dX0_copyFrom_18 : decode cX0_copyFrom 18 = .ok (.aload_n 1, 1) := by decide +kernel
theorem dX0_copyFrom_19 : decode cX0_copyFrom 19 = .ok (.getfield 16, 3) := by decide +kernel
theorem dX0_copyFrom_22 : decode cX0_copyFrom 22 = .ok (.iload_n 2, 1) := by decide +kernel
theorem dX0_copyFrom_23 : decode cX0_copyFrom 23 = .ok (.iaload, 1) := by decide +kernel
theorem dX0_copyFrom_24 : decode cX0_copyFrom 24 = .ok (.iastore, 1) := by decide +kernel
theorem dX0_copyFrom_25 : decode cX0_copyFrom 25 = .ok (.iinc 2 1, 3) := by decide +kernel
theorem dX0_copyFrom_28 : decode cX0_copyFrom 28 = .ok (.goto (-21), 3) := by decide +kernel
theorem dX0_copyFrom_31 : decode cX0_copyFrom 31 = .ok (.iconst 0, 1) := by decide +kernel
theorem dX0_copyFrom_32 : decode cX0_copyFrom 32 = .ok (.istore_n 2, 1) := by decide +kernel
theorem dX0_copyFrom_33 : decode cX0_copyFrom 33 = .ok (.iload_n 2, 1) := by decide +kernel
theorem dX0_copyFrom_34 : decode cX0_copyFrom 34 = .ok (.bipush 16, 2) := by decide +kernel
theorem dX0_copyFrom_36 : decode cX0_copyFrom 36 = .ok (.if_icmp .ge 45, 3) := by decide +kernel
theorem dX0_copyFrom_39 : decode cX0_copyFrom 39 = .ok (.aload_n 0, 1) := by decide +kernel
theorem dX0_copyFrom_40 : decode cX0_copyFrom 40 = .ok (.getfield 20, 3) := by decide +kernel
theorem dX0_copyFrom_43 : decode cX0_copyFrom 43 = .ok (.iload_n 2, 1) := by decide +kernel
theorem dX0_copyFrom_44 : decode cX0_copyFrom 44 = .ok (.aload_n 1, 1) := by decide +kernel
theorem dX0_copyFrom_45 : decode cX0_copyFrom 45 = .ok (.getfield 20, 3) := by decide +kernel
theorem dX0_copyFrom_48 : decode cX0_copyFrom 48 = .ok (.iload_n 2, 1) := by decide +kernel
theorem dX0_copyFrom_49 : decode cX0_copyFrom 49 = .ok (.iaload, 1) := by decide +kernel
theorem dX0_copyFrom_50 : decode cX0_copyFrom 50 = .ok (.iastore, 1) := by decide +kernel
theorem dX0_copyFrom_51 : decode cX0_copyFrom 51 = .ok (.aload_n 0, 1) := by decide +kernel
theorem dX0_copyFrom_52 : decode cX0_copyFrom 52 = .ok (.getfield 23, 3) := by decide +kernel
theorem dX0_copyFrom_55 : decode cX0_copyFrom 55 = .ok (.iload_n 2, 1) := by decide +kernel
theorem dX0_copyFrom_56 : decode cX0_copyFrom 56 = .ok (.aload_n 1, 1) := by decide +kernel
theorem dX0_copyFrom_57 : decode cX0_copyFrom 57 = .ok (.getfield 23, 3) := by decide +kernel
theorem dX0_copyFrom_60 : decode cX0_copyFrom 60 = .ok (.iload_n 2, 1) := by decide +kernel
theorem dX0_copyFrom_61 : decode cX0_copyFrom 61 = .ok (.iaload, 1) := by decide +kernel
theorem dX0_copyFrom_62 : decode cX0_copyFrom 62 = .ok (.iastore, 1) := by decide +kernel
theorem dX0_copyFrom_63 : decode cX0_copyFrom 63 = .ok (.aload_n 0, 1) := by decide +kernel
theorem dX0_copyFrom_64 : decode cX0_copyFrom 64 = .ok (.getfield 26, 3) := by decide +kernel
theorem dX0_copyFrom_67 : decode cX0_copyFrom 67 = .ok (.iload_n 2, 1) := by decide +kernel
theorem dX0_copyFrom_68 : decode cX0_copyFrom 68 = .ok (.aload_n 1, 1) := by decide +kernel
theorem dX0_copyFrom_69 : decode cX0_copyFrom 69 = .ok (.getfield 26, 3) := by decide +kernel
theorem dX0_copyFrom_72 : decode cX0_copyFrom 72 = .ok (.iload_n 2, 1) := by decide +kernel
theorem dX0_copyFrom_73 : decode cX0_copyFrom 73 = .ok (.iaload, 1) := by decide +kernel
theorem dX0_copyFrom_74 : decode cX0_copyFrom 74 = .ok (.iastore, 1) := by decide +kernel
theorem dX0_copyFrom_75 : decode cX0_copyFrom 75 = .ok (.iinc 2 1, 3) := by decide +kernel
theorem dX0_copyFrom_78 : decode cX0_copyFrom 78 = .ok (.goto (-45), 3) := by decide +kernel
theorem dX0_copyFrom_81 : decode cX0_copyFrom 81 = .ok (.aload_n 0, 1) := by decide +kernel
theorem dX0_copyFrom_82 : decode cX0_copyFrom 82 = .ok (.aload_n 1, 1) := by decide +kernel
theorem dX0_copyFrom_83 : decode cX0_copyFrom 83 = .ok (.getfield 29, 3) := by decide +kernel
theorem dX0_copyFrom_86 : decode cX0_copyFrom 86 = .ok (.putfield 29, 3) := by decide +kernel
theorem dX0_copyFrom_89 : decode cX0_copyFrom 89 = .ok (.aload_n 0, 1) := by decide +kernel
theorem dX0_copyFrom_90 : decode cX0_copyFrom 90 = .ok (.aload_n 1, 1) := by decide +kernel
theorem dX0_copyFrom_91 : decode cX0_copyFrom 91 = .ok (.getfield 33, 3) := by decide +kernel
theorem dX0_copyFrom_94 : decode cX0_copyFrom 94 = .ok (.putfield 33, 3) := by decide +kernel
theorem dX0_copyFrom_97 : decode cX0_copyFrom 97 = .ok (.aload_n 0, 1) := by decide +kernel
theorem dX0_copyFrom_98 : decode cX0_copyFrom 98 = .ok (.aload_n 1, 1) := by decide +kernel
theorem dX0_copyFrom_99 : decode cX0_copyFrom 99 = .ok (.getfield 36, 3) := by decide +kernel
theorem dX0_copyFrom_102 : decode cX0_copyFrom 102 = .ok (.putfield 36, 3) := by decide +kernel
theorem dX0_copyFrom_105 : decode cX0_copyFrom 105 = .ok (.aload_n 0, 1) := by decide +kernel
theorem dX0_copyFrom_106 : decode cX0_copyFrom 106 = .ok (.aload_n 1, 1) := by decide +kernel
theorem dX0_copyFrom_107 : decode cX0_copyFrom 107 = .ok (.getfield 39, 3) := by decide +kernel
theorem dX0_copyFrom_110 : decode cX0_copyFrom 110 = .ok (.putfield 39, 3) := by decide +kernel
theorem dX0_copyFrom_113 : decode cX0_copyFrom 113 = .ok (.return_, 1) := by decide +kernel
theorem dX0_copyDreads_0 : decode cX0_copyDreads 0 = .ok (.iconst 0, 1) := by decide +kernel
theorem dX0_copyDreads_1 : decode cX0_copyDreads 1 = .ok (.istore_n 2, 1) := by decide +kernel
theorem dX0_copyDreads_2 : decode cX0_copyDreads 2 = .ok (.iload_n 2, 1) := by decide +kernel
theorem dX0_copyDreads_3 : decode cX0_copyDreads 3 = .ok (.bipush 12, 2) := by decide +kernel
theorem dX0_copyDreads_5 : decode cX0_copyDreads 5 = .ok (.if_icmp .ge 39, 3) := by decide +kernel
theorem dX0_copyDreads_8 : decode cX0_copyDreads 8 = .ok (.iconst 0, 1) := by decide +kernel
theorem dX0_copyDreads_9 : decode cX0_copyDreads 9 = .ok (.istore_n 3, 1) := by decide +kernel
theorem dX0_copyDreads_10 : decode cX0_copyDreads 10 = .ok (.iload_n 3, 1) := by decide +kernel
theorem dX0_copyDreads_11 : decode cX0_copyDreads 11 = .ok (.bipush 16, 2) := by decide +kernel
theorem dX0_copyDreads_13 : decode cX0_copyDreads 13 = .ok (.if_icmp .ge 25, 3) := by decide +kernel
theorem dX0_copyDreads_16 : decode cX0_copyDreads 16 = .ok (.aload_n 0, 1) := by decide +kernel
theorem dX0_copyDreads_17 : decode cX0_copyDreads 17 = .ok (.getfield 11, 3) := by decide +kernel
theorem dX0_copyDreads_20 : decode cX0_copyDreads 20 = .ok (.iload_n 2, 1) := by decide +kernel
theorem dX0_copyDreads_21 : decode cX0_copyDreads 21 = .ok (.aaload, 1) := by decide +kernel
theorem dX0_copyDreads_22 : decode cX0_copyDreads 22 = .ok (.iload_n 3, 1) := by decide +kernel
theorem dX0_copyDreads_23 : decode cX0_copyDreads 23 = .ok (.aload_n 1, 1) := by decide +kernel
theorem dX0_copyDreads_24 : decode cX0_copyDreads 24 = .ok (.getfield 11, 3) := by decide +kernel
theorem dX0_copyDreads_27 : decode cX0_copyDreads 27 = .ok (.iload_n 2, 1) := by decide +kernel
theorem dX0_copyDreads_28 : decode cX0_copyDreads 28 = .ok (.aaload, 1) := by decide +kernel
theorem dX0_copyDreads_29 : decode cX0_copyDreads 29 = .ok (.iload_n 3, 1) := by decide +kernel
theorem dX0_copyDreads_30 : decode cX0_copyDreads 30 = .ok (.iaload, 1) := by decide +kernel
theorem dX0_copyDreads_31 : decode cX0_copyDreads 31 = .ok (.iastore, 1) := by decide +kernel
theorem dX0_copyDreads_32 : decode cX0_copyDreads 32 = .ok (.iinc 3 1, 3) := by decide +kernel
theorem dX0_copyDreads_35 : decode cX0_copyDreads 35 = .ok (.goto (-25), 3) := by decide +kernel
theorem dX0_copyDreads_38 : decode cX0_copyDreads 38 = .ok (.iinc 2 1, 3) := by decide +kernel
theorem dX0_copyDreads_41 : decode cX0_copyDreads 41 = .ok (.goto (-39), 3) := by decide +kernel
theorem dX0_copyDreads_44 : decode cX0_copyDreads 44 = .ok (.return_, 1) := by decide +kernel
theorem dX0_goBackTo_0 : decode cX0_goBackTo 0 = .ok (.aload_n 0, 1) := by decide +kernel
theorem dX0_goBackTo_1 : decode cX0_goBackTo 1 = .ok (.aload_n 1, 1) := by decide +kernel
theorem dX0_goBackTo_2 : decode cX0_goBackTo 2 = .ok (.invokevirtual 86, 3) := by decide +kernel
theorem dX0_goBackTo_5 : decode cX0_goBackTo 5 = .ok (.iconst 0, 1) := by decide +kernel
theorem dX0_goBackTo_6 : decode cX0_goBackTo 6 = .ok (.istore_n 2, 1) := by decide +kernel
theorem dX0_goBackTo_7 : decode cX0_goBackTo 7 = .ok (.iload_n 2, 1) := by decide +kernel
theorem dX0_goBackTo_8 : decode cX0_goBackTo 8 = .ok (.bipush 16, 2) := by decide +kernel
theorem dX0_goBackTo_10 : decode cX0_goBackTo 10 = .ok (.if_icmp .ge 33, 3) := by decide +kernel
theorem dX0_goBackTo_13 : decode cX0_goBackTo 13 = .ok (.aload_n 0, 1) := by decide +kernel
theorem dX0_goBackTo_14 : decode cX0_goBackTo 14 = .ok (.getfield 26, 3) := by decide +kernel
theorem dX0_goBackTo_17 : decode cX0_goBackTo 17 = .ok (.iload_n 2, 1) := by decide +kernel
theorem dX0_goBackTo_18 : decode cX0_goBackTo 18 = .ok (.aload_n 1, 1) := by decide +kernel
theorem dX0_goBackTo_19 : decode cX0_goBackTo 19 = .ok (.iload_n 2, 1) := by decide +kernel
theorem dX0_goBackTo_20 : decode cX0_goBackTo 20 = .ok (.invokevirtual 79, 3) := by decide +kernel
theorem dX0_goBackTo_23 : decode cX0_goBackTo 23 = .ok (.ifCond .eq 12, 3) := by decide +kernel
theorem dX0_goBackTo_26 : decode cX0_goBackTo 26 = .ok (.aload_n 1, 1) := by decide +kernel
theorem dX0_goBackTo_27 : decode cX0_goBackTo 27 = .ok (.getfield 26, 3) := by decide +kernel
theorem dX0_goBackTo_30 : decode cX0_goBackTo 30 = .ok (.iload_n 2, 1) := by decide +kernel
theorem dX0_goBackTo_31 : decode cX0_goBackTo 31 = .ok (.iaload, 1) := by decide +kernel
theorem dX0_goBackTo_32 : decode cX0_goBackTo 32 = .ok (.goto 4, 3) := by decide +kernel
theorem dX0_goBackTo_35 : decode cX0_goBackTo 35 = .ok (.iconst 0, 1) := by decide +kernel
theorem dX0_goBackTo_36 : decode cX0_goBackTo 36 = .ok (.iastore, 1) := by decide +kernel
theorem dX0_goBackTo_37 : decode cX0_goBackTo 37 = .ok (.iinc 2 1, 3) := by decide +kernel
theorem dX0_goBackTo_40 : decode cX0_goBackTo 40 = .ok (.goto (-33), 3) := by decide +kernel
theorem dX0_goBackTo_43 : decode cX0_goBackTo 43 = .ok (.aload_n 0, 1) := by decide +kernel
theorem dX0_goBackTo_44 : decode cX0_goBackTo 44 = .ok (.aload_n 1, 1) := by decide +kernel
theorem dX0_goBackTo_45 : decode cX0_goBackTo 45 = .ok (.getfield 36, 3) := by decide +kernel
theorem dX0_goBackTo_48 : decode cX0_goBackTo 48 = .ok (.putfield 36, 3) := by decide +kernel
theorem dX0_goBackTo_51 : decode cX0_goBackTo 51 = .ok (.aload_n 0, 1) := by decide +kernel
theorem dX0_goBackTo_52 : decode cX0_goBackTo 52 = .ok (.aload_n 1, 1) := by decide +kernel
theorem dX0_goBackTo_53 : decode cX0_goBackTo 53 = .ok (.getfield 39, 3) := by decide +kernel
theorem dX0_goBackTo_56 : decode cX0_goBackTo 56 = .ok (.putfield 39, 3) := by decide +kernel
theorem dX0_goBackTo_59 : decode cX0_goBackTo 59 = .ok (.return_, 1) := by decide +kernel
theorem dX1_init_0 : decode cX1_init 0 = .ok (.aload_n 0, 1) := by decide +kernel
theorem dX1_init_1 : decode cX1_init 1 = .ok (.invokespecial 3, 3) := by decide +kernel
theorem dX1_init_4 : decode cX1_init 4 = .ok (.aload_n 0, 1) := by decide +kernel
theorem dX1_init_5 : decode cX1_init 5 = .ok (.bipush 12, 2) := by decide +kernel
theorem dX1_init_7 : decode cX1_init 7 = .ok (.newarray .int, 2) := by decide +kernel
theorem dX1_init_9 : decode cX1_init 9 = .ok (.putfield 9, 3) := by decide +kernel
theorem dX1_init_12 : decode cX1_init 12 = .ok (.aload_n 0, 1) := by decide +kernel
theorem dX1_init_13 : decode cX1_init 13 = .ok (.sipush 4096, 3) := by decide +kernel
theorem dX1_init_16 : decode cX1_init 16 = .ok (.newarray .int, 2) := by decide +kernel
theorem dX1_init_18 : decode cX1_init 18 = .ok (.putfield 15, 3) := by decide +kernel
theorem dX1_init_21 : decode cX1_init 21 = .ok (.return_, 1) := by decide +kernel
theorem dX1_beside_0 : decode cX1_beside 0 = .ok (.iconst 0, 1) := by decide +kernel
theorem dX1_beside_1 : decode cX1_beside 1 = .ok (.istore_n 2, 1) := by decide +kernel
theorem dX1_beside_2 : decode cX1_beside 2 = .ok (.iconst 0, 1) := by decide +kernel
theorem dX1_beside_3 : decode cX1_beside 3 = .ok (.istore_n 3, 1) := by decide +kernel
theorem dX1_beside_4 : decode cX1_beside 4 = .ok (.iload_n 3, 1) := by decide +kernel
theorem dX1_beside_5 : decode cX1_beside 5 = .ok (.aload_n 0, 1) := by decide +kernel
theorem dX1_beside_6 : decode cX1_beside 6 = .ok (.arraylength, 1) := by decide +kernel
theorem dX1_beside_7 : decode cX1_beside 7 = .ok (.if_icmp .ge 23, 3) := by decide +kernel
theorem dX1_beside_10 : decode cX1_beside 10 = .ok (.iload_n 1, 1) := by decide +kernel
theorem dX1_beside_11 : decode cX1_beside 11 = .ok (.iload_n 3, 1) := by decide +kernel
theorem dX1_beside_12 : decode cX1_beside 12 = .ok (.invokestatic 18, 3) := by decide +kernel
theorem dX1_beside_15 : decode cX1_beside 15 = .ok (.ifCond .eq 9, 3) := by decide +kernel
theorem dX1_beside_18 : decode cX1_beside 18 = .ok (.iload_n 2, 1) := by decide +kernel
theorem dX1_beside_19 : decode cX1_beside 19 = .ok (.aload_n 0, 1) := by decide +kernel
theorem dX1_beside_20 : decode cX1_beside 20 = .ok (.iload_n 3, 1) := by decide +kernel
theorem dX1_beside_21 : decode cX1_beside 21 = .ok (.iaload, 1) := by decide +kernel
theorem dX1_beside_22 : decode cX1_beside 22 = .ok (.ior, 1) := by decide +kernel
theorem dX1_beside_23 : decode cX1_beside 23 = .ok (.istore_n 2, 1) := by decide +kernel
theorem dX1_beside_24 : decode cX1_beside 24 = .ok (.iinc 3 1, 3) := by decide +kernel
theorem dX1_beside_27 : decode cX1_beside 27 = .ok (.goto (-23), 3) := by decide +kernel
theorem dX1_beside_30 : decode cX1_beside 30 = .ok (.iload_n 2, 1) := by decide +kernel
theorem dX1_beside_31 : decode cX1_beside 31 = .ok (.ireturn, 1) := by decide +kernel
theorem dX1_reached_0 : decode cX1_reached 0 = .ok (.iload_n 1, 1) := by decide +kernel
theorem dX1_reached_1 : decode cX1_reached 1 = .ok (.iload_n 2, 1) := by decide +kernel
theorem dX1_reached_2 : decode cX1_reached 2 = .ok (.iand, 1) := by decide +kernel
theorem dX1_reached_3 : decode cX1_reached 3 = .ok (.istore_n 3, 1) := by decide +kernel
theorem dX1_reached_4 : decode cX1_reached 4 = .ok (.iconst 0, 1) := by decide +kernel
theorem dX1_reached_5 : decode cX1_reached 5 = .ok (.istore 4, 2) := by decide +kernel
theorem dX1_reached_7 : decode cX1_reached 7 = .ok (.iload 4, 2) := by decide +kernel
theorem dX1_reached_9 : decode cX1_reached 9 = .ok (.bipush 12, 2) := by decide +kernel
theorem dX1_reached_11 : decode cX1_reached 11 = .ok (.if_icmp .ge 19, 3) := by decide +kernel
theorem dX1_reached_14 : decode cX1_reached 14 = .ok (.iload_n 3, 1) := by decide +kernel
theorem dX1_reached_15 : decode cX1_reached 15 = .ok (.aload_n 0, 1) := by decide +kernel
theorem dX1_reached_16 : decode cX1_reached 16 = .ok (.iload_n 3, 1) := by decide +kernel
theorem dX1_reached_17 : decode cX1_reached 17 = .ok (.invokestatic 22, 3) := by decide +kernel
theorem dX1_reached_20 : decode cX1_reached 20 = .ok (.iload_n 2, 1) := by decide +kernel
theorem dX1_reached_21 : decode cX1_reached 21 = .ok (.iand, 1) := by decide +kernel
theorem dX1_reached_22 : decode cX1_reached 22 = .ok (.ior, 1) := by decide +kernel
theorem dX1_reached_23 : decode cX1_reached 23 = .ok (.istore_n 3, 1) := by decide +kernel
theorem dX1_reached_24 : decode cX1_reached 24 = .ok (.iinc 4 1, 3) := by decide +kernel
theorem dX1_reached_27 : decode cX1_reached 27 = .ok (.goto (-20), 3) := by decide +kernel
theorem dX1_reached_30 : decode cX1_reached 30 = .ok (.iload_n 3, 1) := by decide +kernel
theorem dX1_reached_31 : decode cX1_reached 31 = .ok (.ireturn, 1) := by decide +kernel
theorem dX1_holdersTogether_0 : decode cX1_holdersTogether 0 = .ok (.iconst 0, 1) := by decide +kernel
theorem dX1_holdersTogether_1 : decode cX1_holdersTogether 1 = .ok (.istore_n 1, 1) := by decide +kernel
theorem dX1_holdersTogether_2 : decode cX1_holdersTogether 2 = .ok (.iconst 0, 1) := by decide +kernel
theorem dX1_holdersTogether_3 : decode cX1_holdersTogether 3 = .ok (.istore_n 2, 1) := by decide +kernel
theorem dX1_holdersTogether_4 : decode cX1_holdersTogether 4 = .ok (.iload_n 2, 1) := by decide +kernel
theorem dX1_holdersTogether_5 : decode cX1_holdersTogether 5 = .ok (.bipush 12, 2) := by decide +kernel
theorem dX1_holdersTogether_7 : decode cX1_holdersTogether 7 = .ok (.if_icmp .ge 61, 3) := by decide +kernel
theorem dX1_holdersTogether_10 : decode cX1_holdersTogether 10 = .ok (.aload_n 0, 1) := by decide +kernel
theorem dX1_holdersTogether_11 : decode cX1_holdersTogether 11 = .ok (.getfield 26, 3) := by decide +kernel
theorem dX1_holdersTogether_14 : decode cX1_holdersTogether 14 = .ok (.iconst 1, 1) := by decide +kernel
theorem dX1_holdersTogether_15 : decode cX1_holdersTogether 15 = .ok (.iload_n 2, 1) := by decide +kernel
theorem dX1_holdersTogether_16 : decode cX1_holdersTogether 16 = .ok (.ishl, 1) := by decide +kernel
theorem dX1_holdersTogether_17 : decode cX1_holdersTogether 17 = .ok (.iconst (-1), 1) := by decide +kernel
theorem dX1_holdersTogether_18 : decode cX1_holdersTogether 18 = .ok (.ixor, 1) := by decide +kernel
theorem dX1_holdersTogether_19 : decode cX1_holdersTogether 19 = .ok (.iand, 1) := by decide +kernel
theorem dX1_holdersTogether_20 : decode cX1_holdersTogether 20 = .ok (.istore_n 3, 1) := by decide +kernel
theorem dX1_holdersTogether_21 : decode cX1_holdersTogether 21 = .ok (.aload_n 0, 1) := by decide +kernel
theorem dX1_holdersTogether_22 : decode cX1_holdersTogether 22 = .ok (.iload_n 2, 1) := by decide +kernel
theorem dX1_holdersTogether_23 : decode cX1_holdersTogether 23 = .ok (.invokevirtual 32, 3) := by decide +kernel
theorem dX1_holdersTogether_26 : decode cX1_holdersTogether 26 = .ok (.iload_n 3, 1) := by decide +kernel
theorem dX1_holdersTogether_27 : decode cX1_holdersTogether 27 = .ok (.iand, 1) := by decide +kernel
theorem dX1_holdersTogether_28 : decode cX1_holdersTogether 28 = .ok (.istore 4, 2) := by decide +kernel
theorem dX1_holdersTogether_30 : decode cX1_holdersTogether 30 = .ok (.iload 4, 2) := by decide +kernel
theorem dX1_holdersTogether_32 : decode cX1_holdersTogether 32 = .ok (.iload 4, 2) := by decide +kernel
theorem dX1_holdersTogether_34 : decode cX1_holdersTogether 34 = .ok (.ineg, 1) := by decide +kernel
theorem dX1_holdersTogether_35 : decode cX1_holdersTogether 35 = .ok (.iand, 1) := by decide +kernel
theorem dX1_holdersTogether_36 : decode cX1_holdersTogether 36 = .ok (.istore 5, 2) := by decide +kernel
theorem dX1_holdersTogether_38 : decode cX1_holdersTogether 38 = .ok (.iload 4, 2) := by decide +kernel
theorem dX1_holdersTogether_40 : decode cX1_holdersTogether 40 = .ok (.aload_n 0, 1) := by decide +kernel
theorem dX1_holdersTogether_41 : decode cX1_holdersTogether 41 = .ok (.getfield 36, 3) := by decide +kernel
theorem dX1_holdersTogether_44 : decode cX1_holdersTogether 44 = .ok (.iload 5, 2) := by decide +kernel
theorem dX1_holdersTogether_46 : decode cX1_holdersTogether 46 = .ok (.iload_n 3, 1) := by decide +kernel
theorem dX1_holdersTogether_47 : decode cX1_holdersTogether 47 = .ok (.invokestatic 39, 3) := by decide +kernel
theorem dX1_holdersTogether_50 : decode cX1_holdersTogether 50 = .ok (.iconst (-1), 1) := by decide +kernel
theorem dX1_holdersTogether_51 : decode cX1_holdersTogether 51 = .ok (.ixor, 1) := by decide +kernel
theorem dX1_holdersTogether_52 : decode cX1_holdersTogether 52 = .ok (.iand, 1) := by decide +kernel
theorem dX1_holdersTogether_53 : decode cX1_holdersTogether 53 = .ok (.ifCond .eq 9, 3) := by decide +kernel
theorem dX1_holdersTogether_56 : decode cX1_holdersTogether 56 = .ok (.iload_n 1, 1) := by decide +kernel
theorem dX1_holdersTogether_57 : decode cX1_holdersTogether 57 = .ok (.iconst 1, 1) := by decide +kernel
theorem dX1_holdersTogether_58 : decode cX1_holdersTogether 58 = .ok (.iload_n 2, 1) := by decide +kernel
theorem dX1_holdersTogether_59 : decode cX1_holdersTogether 59 = .ok (.ishl, 1) := by decide +kernel
theorem dX1_holdersTogether_60 : decode cX1_holdersTogether 60 = .ok (.ior, 1) := by decide +kernel
theorem dX1_holdersTogether_61 : decode cX1_holdersTogether 61 = .ok (.istore_n 1, 1) := by decide +kernel
theorem dX1_holdersTogether_62 : decode cX1_holdersTogether 62 = .ok (.iinc 2 1, 3) := by decide +kernel
theorem dX1_holdersTogether_65 : decode cX1_holdersTogether 65 = .ok (.goto (-61), 3) := by decide +kernel
theorem dX1_holdersTogether_68 : decode cX1_holdersTogether 68 = .ok (.iload_n 1, 1) := by decide +kernel
theorem dX1_holdersTogether_69 : decode cX1_holdersTogether 69 = .ok (.ireturn, 1) := by decide +kernel
theorem dX1_stepsBetween_0 : decode cX1_stepsBetween 0 = .ok (.iconst 1, 1) := by decide +kernel
theorem dX1_stepsBetween_1 : decode cX1_stepsBetween 1 = .ok (.iload_n 1, 1) := by decide +kernel
theorem dX1_stepsBetween_2 : decode cX1_stepsBetween 2 = .ok (.ishl, 1) := by decide +kernel
theorem dX1_stepsBetween_3 : decode cX1_stepsBetween 3 = .ok (.istore_n 3, 1) := by decide +kernel
theorem dX1_stepsBetween_4 : decode cX1_stepsBetween 4 = .ok (.iconst 0, 1) := by decide +kernel
theorem dX1_stepsBetween_5 : decode cX1_stepsBetween 5 = .ok (.istore 4, 2) := by decide +kernel
theorem dX1_stepsBetween_7 : decode cX1_stepsBetween 7 = .ok (.iload 4, 2) := by decide +kernel
theorem dX1_stepsBetween_9 : decode cX1_stepsBetween 9 = .ok (.bipush 12, 2) := by decide +kernel
theorem dX1_stepsBetween_11 : decode cX1_stepsBetween 11 = .ok (.if_icmp .ge 31, 3) := by decide +kernel
theorem dX1_stepsBetween_14 : decode cX1_stepsBetween 14 = .ok (.iload_n 3, 1) := by decide +kernel
theorem dX1_stepsBetween_15 : decode cX1_stepsBetween 15 = .ok (.iload_n 2, 1) := by decide +kernel
theorem dX1_stepsBetween_16 : decode cX1_stepsBetween 16 = .ok (.invokestatic 18, 3) := by decide +kernel
theorem dX1_stepsBetween_19 : decode cX1_stepsBetween 19 = .ok (.ifCond .eq 6, 3) := by decide +kernel
theorem dX1_stepsBetween_22 : decode cX1_stepsBetween 22 = .ok (.iload 4, 2) := by decide +kernel
theorem dX1_stepsBetween_24 : decode cX1_stepsBetween 24 = .ok (.ireturn, 1) := by decide +kernel
theorem dX1_stepsBetween_25 : decode cX1_stepsBetween 25 = .ok (.iload_n 3, 1) := by decide +kernel
theorem dX1_stepsBetween_26 : decode cX1_stepsBetween 26 = .ok (.aload_n 0, 1) := by decide +kernel
theorem dX1_stepsBetween_27 : decode cX1_stepsBetween 27 = .ok (.getfield 36, 3) := by decide +kernel
theorem dX1_stepsBetween_30 : decode cX1_stepsBetween 30 = .ok (.iload_n 3, 1) := by decide +kernel
theorem dX1_stepsBetween_31 : decode cX1_stepsBetween 31 = .ok (.invokestatic 22, 3) := by decide +kernel
theorem dX1_stepsBetween_34 : decode cX1_stepsBetween 34 = .ok (.ior, 1) := by decide +kernel
theorem dX1_stepsBetween_35 : decode cX1_stepsBetween 35 = .ok (.istore_n 3, 1) := by decide +kernel
theorem dX1_stepsBetween_36 : decode cX1_stepsBetween 36 = .ok (.iinc 4 1, 3) := by decide +kernel
theorem dX1_stepsBetween_39 : decode cX1_stepsBetween 39 = .ok (.goto (-32), 3) := by decide +kernel
theorem dX1_stepsBetween_42 : decode cX1_stepsBetween 42 = .ok (.bipush (-2), 2) := by decide +kernel
theorem dX1_stepsBetween_44 : decode cX1_stepsBetween 44 = .ok (.ireturn, 1) := by decide +kernel
theorem dX1_grownFashion_0 : decode cX1_grownFashion 0 = .ok (.iload_n 1, 1) := by decide +kernel
theorem dX1_grownFashion_1 : decode cX1_grownFashion 1 = .ok (.istore_n 3, 1) := by decide +kernel
theorem dX1_grownFashion_2 : decode cX1_grownFashion 2 = .ok (.iconst 0, 1) := by decide +kernel
theorem dX1_grownFashion_3 : decode cX1_grownFashion 3 = .ok (.istore 4, 2) := by decide +kernel
theorem dX1_grownFashion_5 : decode cX1_grownFashion 5 = .ok (.iload 4, 2) := by decide +kernel
theorem dX1_grownFashion_7 : decode cX1_grownFashion 7 = .ok (.bipush 12, 2) := by decide +kernel
theorem dX1_grownFashion_9 : decode cX1_grownFashion 9 = .ok (.if_icmp .ge 31, 3) := by decide +kernel
theorem dX1_grownFashion_12 : decode cX1_grownFashion 12 = .ok (.aload_n 0, 1) := by decide +kernel
theorem dX1_grownFashion_13 : decode cX1_grownFashion 13 = .ok (.iload 4, 2) := by decide +kernel
theorem dX1_grownFashion_15 : decode cX1_grownFashion 15 = .ok (.invokevirtual 32, 3) := by decide +kernel
theorem dX1_grownFashion_18 : decode cX1_grownFashion 18 = .ok (.iload_n 1, 1) := by decide +kernel
theorem dX1_grownFashion_19 : decode cX1_grownFashion 19 = .ok (.iand, 1) := by decide +kernel
theorem dX1_grownFashion_20 : decode cX1_grownFashion 20 = .ok (.invokestatic 43, 3) := by decide +kernel
theorem dX1_grownFashion_23 : decode cX1_grownFashion 23 = .ok (.iload_n 2, 1) := by decide +kernel
theorem dX1_grownFashion_24 : decode cX1_grownFashion 24 = .ok (.if_icmp .lt 10, 3) := by decide +kernel
theorem dX1_grownFashion_27 : decode cX1_grownFashion 27 = .ok (.iload_n 3, 1) := by decide +kernel
theorem dX1_grownFashion_28 : decode cX1_grownFashion 28 = .ok (.iconst 1, 1) := by decide +kernel
theorem dX1_grownFashion_29 : decode cX1_grownFashion 29 = .ok (.iload 4, 2) := by decide +kernel
theorem dX1_grownFashion_31 : decode cX1_grownFashion 31 = .ok (.ishl, 1) := by decide +kernel
theorem dX1_grownFashion_32 : decode cX1_grownFashion 32 = .ok (.ior, 1) := by decide +kernel
theorem dX1_grownFashion_33 : decode cX1_grownFashion 33 = .ok (.istore_n 3, 1) := by decide +kernel
theorem dX1_grownFashion_34 : decode cX1_grownFashion 34 = .ok (.iinc 4 1, 3) := by decide +kernel
theorem dX1_grownFashion_37 : decode cX1_grownFashion 37 = .ok (.goto (-32), 3) := by decide +kernel
theorem dX1_grownFashion_40 : decode cX1_grownFashion 40 = .ok (.iload_n 3, 1) := by decide +kernel
theorem dX1_grownFashion_41 : decode cX1_grownFashion 41 = .ok (.ireturn, 1) := by decide +kernel
theorem dX1_difference_0 : decode cX1_difference 0 = .ok (.iconst 0, 1) := by decide +kernel
theorem dX1_difference_1 : decode cX1_difference 1 = .ok (.istore_n 3, 1) := by decide +kernel
theorem dX1_difference_2 : decode cX1_difference 2 = .ok (.iconst 0, 1) := by decide +kernel
theorem dX1_difference_3 : decode cX1_difference 3 = .ok (.istore 4, 2) := by decide +kernel
theorem dX1_difference_5 : decode cX1_difference 5 = .ok (.iload 4, 2) := by decide +kernel
theorem dX1_difference_7 : decode cX1_difference 7 = .ok (.bipush 16, 2) := by decide +kernel
theorem dX1_difference_9 : decode cX1_difference 9 = .ok (.if_icmp .ge 30, 3) := by decide +kernel
theorem dX1_difference_12 : decode cX1_difference 12 = .ok (.iload_n 3, 1) := by decide +kernel
theorem dX1_difference_13 : decode cX1_difference 13 = .ok (.aload_n 0, 1) := by decide +kernel
theorem dX1_difference_14 : decode cX1_difference 14 = .ok (.iload_n 1, 1) := by decide +kernel
theorem dX1_difference_15 : decode cX1_difference 15 = .ok (.iload 4, 2) := by decide +kernel
theorem dX1_difference_17 : decode cX1_difference 17 = .ok (.invokevirtual 48, 3) := by decide +kernel
theorem dX1_difference_20 : decode cX1_difference 20 = .ok (.aload_n 0, 1) := by decide +kernel
theorem dX1_difference_21 : decode cX1_difference 21 = .ok (.iload_n 2, 1) := by decide +kernel
theorem dX1_difference_22 : decode cX1_difference 22 = .ok (.iload 4, 2) := by decide +kernel
theorem dX1_difference_24 : decode cX1_difference 24 = .ok (.invokevirtual 48, 3) := by decide +kernel
theorem dX1_difference_27 : decode cX1_difference 27 = .ok (.isub, 1) := by decide +kernel
theorem dX1_difference_28 : decode cX1_difference 28 = .ok (.invokestatic 52, 3) := by decide +kernel
theorem dX1_difference_31 : decode cX1_difference 31 = .ok (.iadd, 1) := by decide +kernel
theorem dX1_difference_32 : decode cX1_difference 32 = .ok (.istore_n 3, 1) := by decide +kernel
theorem dX1_difference_33 : decode cX1_difference 33 = .ok (.iinc 4 1, 3) := by decide +kernel
theorem dX1_difference_36 : decode cX1_difference 36 = .ok (.goto (-31), 3) := by decide +kernel
theorem dX1_difference_39 : decode cX1_difference 39 = .ok (.iload_n 3, 1) := by decide +kernel
theorem dX1_difference_40 : decode cX1_difference 40 = .ok (.ireturn, 1) := by decide +kernel
theorem dX1_nearestTo_0 : decode cX1_nearestTo 0 = .ok (.bipush (-2), 2) := by decide +kernel
theorem dX1_nearestTo_2 : decode cX1_nearestTo 2 = .ok (.istore_n 2, 1) := by decide +kernel
theorem dX1_nearestTo_3 : decode cX1_nearestTo 3 = .ok (.sipush 1585, 3) := by decide +kernel
theorem dX1_nearestTo_6 : decode cX1_nearestTo 6 = .ok (.istore_n 3, 1) := by decide +kernel
theorem dX1_nearestTo_7 : decode cX1_nearestTo 7 = .ok (.iconst 0, 1) := by decide +kernel
theorem dX1_nearestTo_8 : decode cX1_nearestTo 8 = .ok (.istore 4, 2) := by decide +kernel
theorem dX1_nearestTo_10 : decode cX1_nearestTo 10 = .ok (.iload 4, 2) := by decide +kernel
theorem dX1_nearestTo_12 : decode cX1_nearestTo 12 = .ok (.bipush 12, 2) := by decide +kernel
theorem dX1_nearestTo_14 : decode cX1_nearestTo 14 = .ok (.if_icmp .ge 46, 3) := by decide +kernel
theorem dX1_nearestTo_17 : decode cX1_nearestTo 17 = .ok (.iload 4, 2) := by decide +kernel
theorem dX1_nearestTo_19 : decode cX1_nearestTo 19 = .ok (.iload_n 1, 1) := by decide +kernel
theorem dX1_nearestTo_20 : decode cX1_nearestTo 20 = .ok (.if_icmp .eq 34, 3) := by decide +kernel
theorem dX1_nearestTo_23 : decode cX1_nearestTo 23 = .ok (.aload_n 0, 1) := by decide +kernel
theorem dX1_nearestTo_24 : decode cX1_nearestTo 24 = .ok (.iload 4, 2) := by decide +kernel
theorem dX1_nearestTo_26 : decode cX1_nearestTo 26 = .ok (.invokevirtual 57, 3) := by decide +kernel
theorem dX1_nearestTo_29 : decode cX1_nearestTo 29 = .ok (.ifCond .eq 25, 3) := by decide +kernel
theorem dX1_nearestTo_32 : decode cX1_nearestTo 32 = .ok (.aload_n 0, 1) := by decide +kernel
theorem dX1_nearestTo_33 : decode cX1_nearestTo 33 = .ok (.iload_n 1, 1) := by decide +kernel
theorem dX1_nearestTo_34 : decode cX1_nearestTo 34 = .ok (.iload 4, 2) := by decide +kernel
theorem dX1_nearestTo_36 : decode cX1_nearestTo 36 = .ok (.invokestatic 61, 3) := by decide +kernel
theorem dX1_nearestTo_39 : decode cX1_nearestTo 39 = .ok (.iload_n 3, 1) := by decide +kernel
theorem dX1_nearestTo_40 : decode cX1_nearestTo 40 = .ok (.if_icmp .ge 14, 3) := by decide +kernel
theorem dX1_nearestTo_43 : decode cX1_nearestTo 43 = .ok (.iload 4, 2) := by decide +kernel
theorem dX1_nearestTo_45 : decode cX1_nearestTo 45 = .ok (.istore_n 2, 1) := by decide +kernel
theorem dX1_nearestTo_46 : decode cX1_nearestTo 46 = .ok (.aload_n 0, 1) := by decide +kernel
theorem dX1_nearestTo_47 : decode cX1_nearestTo 47 = .ok (.iload_n 1, 1) := by decide +kernel
theorem dX1_nearestTo_48 : decode cX1_nearestTo 48 = .ok (.iload 4, 2) := by decide +kernel
theorem dX1_nearestTo_50 : decode cX1_nearestTo 50 = .ok (.invokestatic 61, 3) := by decide +kernel
theorem dX1_nearestTo_53 : decode cX1_nearestTo 53 = .ok (.istore_n 3, 1) := by decide +kernel
theorem dX1_nearestTo_54 : decode cX1_nearestTo 54 = .ok (.iinc 4 1, 3) := by decide +kernel
theorem dX1_nearestTo_57 : decode cX1_nearestTo 57 = .ok (.goto (-47), 3) := by decide +kernel
theorem dX1_nearestTo_60 : decode cX1_nearestTo 60 = .ok (.iload_n 2, 1) := by decide +kernel
theorem dX1_nearestTo_61 : decode cX1_nearestTo 61 = .ok (.ireturn, 1) := by decide +kernel
theorem dX1_linkAlike_0 : decode cX1_linkAlike 0 = .ok (.iconst 0, 1) := by decide +kernel
theorem dX1_linkAlike_1 : decode cX1_linkAlike 1 = .ok (.istore_n 3, 1) := by decide +kernel
theorem dX1_linkAlike_2 : decode cX1_linkAlike 2 = .ok (.iload_n 3, 1) := by decide +kernel
theorem dX1_linkAlike_3 : decode cX1_linkAlike 3 = .ok (.bipush 12, 2) := by decide +kernel
theorem dX1_linkAlike_5 : decode cX1_linkAlike 5 = .ok (.if_icmp .ge 73, 3) := by decide +kernel
theorem dX1_linkAlike_8 : decode cX1_linkAlike 8 = .ok (.aload_n 0, 1) := by decide +kernel
theorem dX1_linkAlike_9 : decode cX1_linkAlike 9 = .ok (.getfield 9, 3) := by decide +kernel
theorem dX1_linkAlike_12 : decode cX1_linkAlike 12 = .ok (.iload_n 3, 1) := by decide +kernel
theorem dX1_linkAlike_13 : decode cX1_linkAlike 13 = .ok (.iconst 0, 1) := by decide +kernel
theorem dX1_linkAlike_14 : decode cX1_linkAlike 14 = .ok (.iastore, 1) := by decide +kernel
theorem dX1_linkAlike_15 : decode cX1_linkAlike 15 = .ok (.iconst 0, 1) := by decide +kernel
theorem dX1_linkAlike_16 : decode cX1_linkAlike 16 = .ok (.istore 4, 2) := by decide +kernel
theorem dX1_linkAlike_18 : decode cX1_linkAlike 18 = .ok (.iload 4, 2) := by decide +kernel
theorem dX1_linkAlike_20 : decode cX1_linkAlike 20 = .ok (.bipush 12, 2) := by decide +kernel
theorem dX1_linkAlike_22 : decode cX1_linkAlike 22 = .ok (.if_icmp .ge 50, 3) := by decide +kernel
theorem dX1_linkAlike_25 : decode cX1_linkAlike 25 = .ok (.aload_n 1, 1) := by decide +kernel
theorem dX1_linkAlike_26 : decode cX1_linkAlike 26 = .ok (.iload_n 3, 1) := by decide +kernel
theorem dX1_linkAlike_27 : decode cX1_linkAlike 27 = .ok (.invokevirtual 57, 3) := by decide +kernel
theorem dX1_linkAlike_30 : decode cX1_linkAlike 30 = .ok (.ifCond .eq 36, 3) := by decide +kernel
theorem dX1_linkAlike_33 : decode cX1_linkAlike 33 = .ok (.aload_n 1, 1) := by decide +kernel
theorem dX1_linkAlike_34 : decode cX1_linkAlike 34 = .ok (.iload 4, 2) := by decide +kernel
theorem dX1_linkAlike_36 : decode cX1_linkAlike 36 = .ok (.invokevirtual 57, 3) := by decide +kernel
theorem dX1_linkAlike_39 : decode cX1_linkAlike 39 = .ok (.ifCond .eq 27, 3) := by decide +kernel
theorem dX1_linkAlike_42 : decode cX1_linkAlike 42 = .ok (.aload_n 1, 1) := by decide +kernel
theorem dX1_linkAlike_43 : decode cX1_linkAlike 43 = .ok (.iload_n 3, 1) := by decide +kernel
theorem dX1_linkAlike_44 : decode cX1_linkAlike 44 = .ok (.iload 4, 2) := by decide +kernel
theorem dX1_linkAlike_46 : decode cX1_linkAlike 46 = .ok (.invokestatic 61, 3) := by decide +kernel
theorem dX1_linkAlike_49 : decode cX1_linkAlike 49 = .ok (.iload_n 2, 1) := by decide +kernel
theorem dX1_linkAlike_50 : decode cX1_linkAlike 50 = .ok (.if_icmp .gt 16, 3) := by decide +kernel
theorem dX1_linkAlike_53 : decode cX1_linkAlike 53 = .ok (.aload_n 0, 1) := by decide +kernel
theorem dX1_linkAlike_54 : decode cX1_linkAlike 54 = .ok (.getfield 9, 3) := by decide +kernel
theorem dX1_linkAlike_57 : decode cX1_linkAlike 57 = .ok (.iload_n 3, 1) := by decide +kernel
theorem dX1_linkAlike_58 : decode cX1_linkAlike 58 = .ok (.dup2, 1) := by decide +kernel
theorem dX1_linkAlike_59 : decode cX1_linkAlike 59 = .ok (.iaload, 1) := by decide +kernel
theorem dX1_linkAlike_60 : decode cX1_linkAlike 60 = .ok (.iconst 1, 1) := by decide +kernel
theorem dX1_linkAlike_61 : decode cX1_linkAlike 61 = .ok (.iload 4, 2) := by decide +kernel
theorem dX1_linkAlike_63 : decode cX1_linkAlike 63 = .ok (.ishl, 1) := by decide +kernel
theorem dX1_linkAlike_64 : decode cX1_linkAlike 64 = .ok (.ior, 1) := by decide +kernel
theorem dX1_linkAlike_65 : decode cX1_linkAlike 65 = .ok (.iastore, 1) := by decide +kernel
theorem dX1_linkAlike_66 : decode cX1_linkAlike 66 = .ok (.iinc 4 1, 3) := by decide +kernel
theorem dX1_linkAlike_69 : decode cX1_linkAlike 69 = .ok (.goto (-51), 3) := by decide +kernel
theorem dX1_linkAlike_72 : decode cX1_linkAlike 72 = .ok (.iinc 3 1, 3) := by decide +kernel
theorem dX1_linkAlike_75 : decode cX1_linkAlike 75 = .ok (.goto (-73), 3) := by decide +kernel
theorem dX1_linkAlike_78 : decode cX1_linkAlike 78 = .ok (.return_, 1) := by decide +kernel
theorem dX1_circleOf_0 : decode cX1_circleOf 0 = .ok (.aload_n 0, 1) := by decide +kernel
theorem dX1_circleOf_1 : decode cX1_circleOf 1 = .ok (.getfield 9, 3) := by decide +kernel
theorem dX1_circleOf_4 : decode cX1_circleOf 4 = .ok (.iconst 1, 1) := by decide +kernel
theorem dX1_circleOf_5 : decode cX1_circleOf 5 = .ok (.iload_n 1, 1) := by decide +kernel
theorem dX1_circleOf_6 : decode cX1_circleOf 6 = .ok (.ishl, 1) := by decide +kernel
theorem dX1_circleOf_7 : decode cX1_circleOf 7 = .ok (.iload_n 2, 1) := by decide +kernel
theorem dX1_circleOf_8 : decode cX1_circleOf 8 = .ok (.invokestatic 39, 3) := by decide +kernel
theorem dX1_circleOf_11 : decode cX1_circleOf 11 = .ok (.ireturn, 1) := by decide +kernel
theorem dX1_circlesOf_0 : decode cX1_circlesOf 0 = .ok (.iconst 0, 1) := by decide +kernel
theorem dX1_circlesOf_1 : decode cX1_circlesOf 1 = .ok (.istore_n 2, 1) := by decide +kernel
theorem dX1_circlesOf_2 : decode cX1_circlesOf 2 = .ok (.iload_n 1, 1) := by decide +kernel
theorem dX1_circlesOf_3 : decode cX1_circlesOf 3 = .ok (.istore_n 3, 1) := by decide +kernel
theorem dX1_circlesOf_4 : decode cX1_circlesOf 4 = .ok (.iconst 0, 1) := by decide +kernel
theorem dX1_circlesOf_5 : decode cX1_circlesOf 5 = .ok (.istore 4, 2) := by decide +kernel
theorem dX1_circlesOf_7 : decode cX1_circlesOf 7 = .ok (.iload 4, 2) := by decide +kernel
theorem dX1_circlesOf_9 : decode cX1_circlesOf 9 = .ok (.bipush 12, 2) := by decide +kernel
theorem dX1_circlesOf_11 : decode cX1_circlesOf 11 = .ok (.if_icmp .ge 33, 3) := by decide +kernel
theorem dX1_circlesOf_14 : decode cX1_circlesOf 14 = .ok (.iload_n 3, 1) := by decide +kernel
theorem dX1_circlesOf_15 : decode cX1_circlesOf 15 = .ok (.iload 4, 2) := by decide +kernel
theorem dX1_circlesOf_17 : decode cX1_circlesOf 17 = .ok (.invokestatic 18, 3) := by decide +kernel
theorem dX1_circlesOf_20 : decode cX1_circlesOf 20 = .ok (.ifCond .eq 18, 3) := by decide +kernel
theorem dX1_circlesOf_23 : decode cX1_circlesOf 23 = .ok (.iinc 2 1, 3) := by decide +kernel
theorem dX1_circlesOf_26 : decode cX1_circlesOf 26 = .ok (.iload_n 3, 1) := by decide +kernel
theorem dX1_circlesOf_27 : decode cX1_circlesOf 27 = .ok (.aload_n 0, 1) := by decide +kernel
theorem dX1_circlesOf_28 : decode cX1_circlesOf 28 = .ok (.iload 4, 2) := by decide +kernel
theorem dX1_circlesOf_30 : decode cX1_circlesOf 30 = .ok (.iload_n 1, 1) := by decide +kernel
theorem dX1_circlesOf_31 : decode cX1_circlesOf 31 = .ok (.invokevirtual 65, 3) := by decide +kernel
theorem dX1_circlesOf_34 : decode cX1_circlesOf 34 = .ok (.iconst (-1), 1) := by decide +kernel
theorem dX1_circlesOf_35 : decode cX1_circlesOf 35 = .ok (.ixor, 1) := by decide +kernel
theorem dX1_circlesOf_36 : decode cX1_circlesOf 36 = .ok (.iand, 1) := by decide +kernel
theorem dX1_circlesOf_37 : decode cX1_circlesOf 37 = .ok (.istore_n 3, 1) := by decide +kernel
theorem dX1_circlesOf_38 : decode cX1_circlesOf 38 = .ok (.iinc 4 1, 3) := by decide +kernel
theorem dX1_circlesOf_41 : decode cX1_circlesOf 41 = .ok (.goto (-34), 3) := by decide +kernel
theorem dX1_circlesOf_44 : decode cX1_circlesOf 44 = .ok (.iload_n 2, 1) := by decide +kernel
theorem dX1_circlesOf_45 : decode cX1_circlesOf 45 = .ok (.ireturn, 1) := by decide +kernel
theorem dX1_mostCouples_0 : decode cX1_mostCouples 0 = .ok (.aload_n 0, 1) := by decide +kernel
theorem dX1_mostCouples_1 : decode cX1_mostCouples 1 = .ok (.aload_n 1, 1) := by decide +kernel
theorem dX1_mostCouples_2 : decode cX1_mostCouples 2 = .ok (.iload_n 2, 1) := by decide +kernel
theorem dX1_mostCouples_3 : decode cX1_mostCouples 3 = .ok (.invokevirtual 68, 3) := by decide +kernel
theorem dX1_mostCouples_6 : decode cX1_mostCouples 6 = .ok (.aload_n 0, 1) := by decide +kernel
theorem dX1_mostCouples_7 : decode cX1_mostCouples 7 = .ok (.getfield 15, 3) := by decide +kernel
theorem dX1_mostCouples_10 : decode cX1_mostCouples 10 = .ok (.iconst 0, 1) := by decide +kernel
theorem dX1_mostCouples_11 : decode cX1_mostCouples 11 = .ok (.iconst 0, 1) := by decide +kernel
theorem dX1_mostCouples_12 : decode cX1_mostCouples 12 = .ok (.iastore, 1) := by decide +kernel
theorem dX1_mostCouples_13 : decode cX1_mostCouples 13 = .ok (.iconst 0, 1) := by decide +kernel
theorem dX1_mostCouples_14 : decode cX1_mostCouples 14 = .ok (.istore_n 3, 1) := by decide +kernel
theorem dX1_mostCouples_15 : decode cX1_mostCouples 15 = .ok (.iload_n 3, 1) := by decide +kernel
theorem dX1_mostCouples_16 : decode cX1_mostCouples 16 = .ok (.bipush 12, 2) := by decide +kernel
theorem dX1_mostCouples_18 : decode cX1_mostCouples 18 = .ok (.if_icmp .ge 44, 3) := by decide +kernel
theorem dX1_mostCouples_21 : decode cX1_mostCouples 21 = .ok (.iconst 0, 1) := by decide +kernel
theorem dX1_mostCouples_22 : decode cX1_mostCouples 22 = .ok (.istore 4, 2) := by decide +kernel
theorem dX1_mostCouples_24 : decode cX1_mostCouples 24 = .ok (.iload 4, 2) := by decide +kernel
theorem dX1_mostCouples_26 : decode cX1_mostCouples 26 = .ok (.iconst 1, 1) := by decide +kernel
theorem dX1_mostCouples_27 : decode cX1_mostCouples 27 = .ok (.iload_n 3, 1) := by decide +kernel
theorem dX1_mostCouples_28 : decode cX1_mostCouples 28 = .ok (.ishl, 1) := by decide +kernel
theorem dX1_mostCouples_29 : decode cX1_mostCouples 29 = .ok (.if_icmp .ge 27, 3) := by decide +kernel
theorem dX1_mostCouples_32 : decode cX1_mostCouples 32 = .ok (.aload_n 0, 1) := by decide +kernel
theorem dX1_mostCouples_33 : decode cX1_mostCouples 33 = .ok (.getfield 15, 3) := by decide +kernel
theorem dX1_mostCouples_36 : decode cX1_mostCouples 36 = .ok (.iload 4, 2) := by decide +kernel
theorem dX1_mostCouples_38 : decode cX1_mostCouples 38 = .ok (.iconst 1, 1) := by decide +kernel
theorem dX1_mostCouples_39 : decode cX1_mostCouples 39 = .ok (.iload_n 3, 1) := by decide +kernel
theorem dX1_mostCouples_40 : decode cX1_mostCouples 40 = .ok (.ishl, 1) := by decide +kernel
theorem dX1_mostCouples_41 : decode cX1_mostCouples 41 = .ok (.ior, 1) := by decide +kernel
theorem dX1_mostCouples_42 : decode cX1_mostCouples 42 = .ok (.aload_n 0, 1) := by decide +kernel
theorem dX1_mostCouples_43 : decode cX1_mostCouples 43 = .ok (.iload_n 3, 1) := by decide +kernel
theorem dX1_mostCouples_44 : decode cX1_mostCouples 44 = .ok (.iload 4, 2) := by decide +kernel
theorem dX1_mostCouples_46 : decode cX1_mostCouples 46 = .ok (.invokevirtual 72, 3) := by decide +kernel
theorem dX1_mostCouples_49 : decode cX1_mostCouples 49 = .ok (.iastore, 1) := by decide +kernel
theorem dX1_mostCouples_50 : decode cX1_mostCouples 50 = .ok (.iinc 4 1, 3) := by decide +kernel
theorem dX1_mostCouples_53 : decode cX1_mostCouples 53 = .ok (.goto (-29), 3) := by decide +kernel
theorem dX1_mostCouples_56 : decode cX1_mostCouples 56 = .ok (.iinc 3 1, 3) := by decide +kernel
theorem dX1_mostCouples_59 : decode cX1_mostCouples 59 = .ok (.goto (-44), 3) := by decide +kernel
theorem dX1_mostCouples_62 : decode cX1_mostCouples 62 = .ok (.aload_n 0, 1) := by decide +kernel
theorem dX1_mostCouples_63 : decode cX1_mostCouples 63 = .ok (.getfield 15, 3) := by decide +kernel
theorem dX1_mostCouples_66 : decode cX1_mostCouples 66 = .ok (.aload_n 0, 1) := by decide +kernel
theorem dX1_mostCouples_67 : decode cX1_mostCouples 67 = .ok (.getfield 15, 3) := by decide +kernel
theorem dX1_mostCouples_70 : decode cX1_mostCouples 70 = .ok (.arraylength, 1) := by decide +kernel
theorem dX1_mostCouples_71 : decode cX1_mostCouples 71 = .ok (.iconst 1, 1) := by decide +kernel
theorem dX1_mostCouples_72 : decode cX1_mostCouples 72 = .ok (.isub, 1) := by decide +kernel
theorem dX1_mostCouples_73 : decode cX1_mostCouples 73 = .ok (.iaload, 1) := by decide +kernel
theorem dX1_mostCouples_74 : decode cX1_mostCouples 74 = .ok (.ireturn, 1) := by decide +kernel
theorem dX1_linkFellows_0 : decode cX1_linkFellows 0 = .ok (.iconst 0, 1) := by decide +kernel
theorem dX1_linkFellows_1 : decode cX1_linkFellows 1 = .ok (.istore_n 3, 1) := by decide +kernel
theorem dX1_linkFellows_2 : decode cX1_linkFellows 2 = .ok (.iload_n 3, 1) := by decide +kernel
theorem dX1_linkFellows_3 : decode cX1_linkFellows 3 = .ok (.bipush 12, 2) := by decide +kernel
theorem dX1_linkFellows_5 : decode cX1_linkFellows 5 = .ok (.if_icmp .ge 61, 3) := by decide +kernel
theorem dX1_linkFellows_8 : decode cX1_linkFellows 8 = .ok (.aload_n 0, 1) := by decide +kernel
theorem dX1_linkFellows_9 : decode cX1_linkFellows 9 = .ok (.getfield 9, 3) := by decide +kernel
theorem dX1_linkFellows_12 : decode cX1_linkFellows 12 = .ok (.iload_n 3, 1) := by decide +kernel
theorem dX1_linkFellows_13 : decode cX1_linkFellows 13 = .ok (.iconst 0, 1) := by decide +kernel
theorem dX1_linkFellows_14 : decode cX1_linkFellows 14 = .ok (.iastore, 1) := by decide +kernel
theorem dX1_linkFellows_15 : decode cX1_linkFellows 15 = .ok (.iconst 0, 1) := by decide +kernel
theorem dX1_linkFellows_16 : decode cX1_linkFellows 16 = .ok (.istore 4, 2) := by decide +kernel
theorem dX1_linkFellows_18 : decode cX1_linkFellows 18 = .ok (.iload 4, 2) := by decide +kernel
theorem dX1_linkFellows_20 : decode cX1_linkFellows 20 = .ok (.iload_n 3, 1) := by decide +kernel
theorem dX1_linkFellows_21 : decode cX1_linkFellows 21 = .ok (.if_icmp .ge 39, 3) := by decide +kernel
theorem dX1_linkFellows_24 : decode cX1_linkFellows 24 = .ok (.aload_n 1, 1) := by decide +kernel
theorem dX1_linkFellows_25 : decode cX1_linkFellows 25 = .ok (.iload_n 3, 1) := by decide +kernel
theorem dX1_linkFellows_26 : decode cX1_linkFellows 26 = .ok (.iload_n 2, 1) := by decide +kernel
theorem dX1_linkFellows_27 : decode cX1_linkFellows 27 = .ok (.invokevirtual 75, 3) := by decide +kernel
theorem dX1_linkFellows_30 : decode cX1_linkFellows 30 = .ok (.aload_n 1, 1) := by decide +kernel
theorem dX1_linkFellows_31 : decode cX1_linkFellows 31 = .ok (.iload 4, 2) := by decide +kernel
theorem dX1_linkFellows_33 : decode cX1_linkFellows 33 = .ok (.iload_n 2, 1) := by decide +kernel
theorem dX1_linkFellows_34 : decode cX1_linkFellows 34 = .ok (.invokevirtual 75, 3) := by decide +kernel
theorem dX1_linkFellows_37 : decode cX1_linkFellows 37 = .ok (.iand, 1) := by decide +kernel
theorem dX1_linkFellows_38 : decode cX1_linkFellows 38 = .ok (.ifCond .eq 16, 3) := by decide +kernel
theorem dX1_linkFellows_41 : decode cX1_linkFellows 41 = .ok (.aload_n 0, 1) := by decide +kernel
theorem dX1_linkFellows_42 : decode cX1_linkFellows 42 = .ok (.getfield 9, 3) := by decide +kernel
theorem dX1_linkFellows_45 : decode cX1_linkFellows 45 = .ok (.iload_n 3, 1) := by decide +kernel
theorem dX1_linkFellows_46 : decode cX1_linkFellows 46 = .ok (.dup2, 1) := by decide +kernel
theorem dX1_linkFellows_47 : decode cX1_linkFellows 47 = .ok (.iaload, 1) := by decide +kernel
theorem dX1_linkFellows_48 : decode cX1_linkFellows 48 = .ok (.iconst 1, 1) := by decide +kernel
theorem dX1_linkFellows_49 : decode cX1_linkFellows 49 = .ok (.iload 4, 2) := by decide +kernel
theorem dX1_linkFellows_51 : decode cX1_linkFellows 51 = .ok (.ishl, 1) := by decide +kernel
theorem dX1_linkFellows_52 : decode cX1_linkFellows 52 = .ok (.ior, 1) := by decide +kernel
theorem dX1_linkFellows_53 : decode cX1_linkFellows 53 = .ok (.iastore, 1) := by decide +kernel
theorem dX1_linkFellows_54 : decode cX1_linkFellows 54 = .ok (.iinc 4 1, 3) := by decide +kernel
theorem dX1_linkFellows_57 : decode cX1_linkFellows 57 = .ok (.goto (-39), 3) := by decide +kernel
theorem dX1_linkFellows_60 : decode cX1_linkFellows 60 = .ok (.iinc 3 1, 3) := by decide +kernel
theorem dX1_linkFellows_63 : decode cX1_linkFellows 63 = .ok (.goto (-61), 3) := by decide +kernel
theorem dX1_linkFellows_66 : decode cX1_linkFellows 66 = .ok (.return_, 1) := by decide +kernel
theorem dX1_mostWith_0 : decode cX1_mostWith 0 = .ok (.iload_n 1, 1) := by decide +kernel
theorem dX1_mostWith_1 : decode cX1_mostWith 1 = .ok (.ifCond .lt 22, 3) := by decide +kernel
theorem dX1_mostWith_4 : decode cX1_mostWith 4 = .ok (.iload_n 1, 1) := by decide +kernel
theorem dX1_mostWith_5 : decode cX1_mostWith 5 = .ok (.bipush 12, 2) := by decide +kernel
theorem dX1_mostWith_7 : decode cX1_mostWith 7 = .ok (.if_icmp .ge 16, 3) := by decide +kernel
theorem dX1_mostWith_10 : decode cX1_mostWith 10 = .ok (.iload_n 2, 1) := by decide +kernel
theorem dX1_mostWith_11 : decode cX1_mostWith 11 = .ok (.ifCond .lt 12, 3) := by decide +kernel
theorem dX1_mostWith_14 : decode cX1_mostWith 14 = .ok (.iload_n 2, 1) := by decide +kernel
theorem dX1_mostWith_15 : decode cX1_mostWith 15 = .ok (.aload_n 0, 1) := by decide +kernel
theorem dX1_mostWith_16 : decode cX1_mostWith 16 = .ok (.getfield 15, 3) := by decide +kernel
theorem dX1_mostWith_19 : decode cX1_mostWith 19 = .ok (.arraylength, 1) := by decide +kernel
theorem dX1_mostWith_20 : decode cX1_mostWith 20 = .ok (.if_icmp .lt 5, 3) := by decide +kernel
theorem dX1_mostWith_23 : decode cX1_mostWith 23 = .ok (.iconst 0, 1) := by decide +kernel
theorem dX1_mostWith_24 : decode cX1_mostWith 24 = .ok (.ireturn, 1) := by decide +kernel
theorem dX1_mostWith_25 : decode cX1_mostWith 25 = .ok (.aload_n 0, 1) := by decide +kernel
theorem dX1_mostWith_26 : decode cX1_mostWith 26 = .ok (.getfield 15, 3) := by decide +kernel
theorem dX1_mostWith_29 : decode cX1_mostWith 29 = .ok (.iload_n 2, 1) := by decide +kernel
theorem dX1_mostWith_30 : decode cX1_mostWith 30 = .ok (.iaload, 1) := by decide +kernel
theorem dX1_mostWith_31 : decode cX1_mostWith 31 = .ok (.istore_n 3, 1) := by decide +kernel
theorem dX1_mostWith_32 : decode cX1_mostWith 32 = .ok (.iconst 0, 1) := by decide +kernel
theorem dX1_mostWith_33 : decode cX1_mostWith 33 = .ok (.istore 4, 2) := by decide +kernel
theorem dX1_mostWith_35 : decode cX1_mostWith 35 = .ok (.iload 4, 2) := by decide +kernel
theorem dX1_mostWith_37 : decode cX1_mostWith 37 = .ok (.iload_n 1, 1) := by decide +kernel
theorem dX1_mostWith_38 : decode cX1_mostWith 38 = .ok (.if_icmp .ge 45, 3) := by decide +kernel
theorem dX1_mostWith_41 : decode cX1_mostWith 41 = .ok (.aload_n 0, 1) := by decide +kernel
theorem dX1_mostWith_42 : decode cX1_mostWith 42 = .ok (.getfield 9, 3) := by decide +kernel
theorem dX1_mostWith_45 : decode cX1_mostWith 45 = .ok (.iload_n 1, 1) := by decide +kernel
theorem dX1_mostWith_46 : decode cX1_mostWith 46 = .ok (.iaload, 1) := by decide +kernel
theorem dX1_mostWith_47 : decode cX1_mostWith 47 = .ok (.iload_n 2, 1) := by decide +kernel
theorem dX1_mostWith_48 : decode cX1_mostWith 48 = .ok (.iand, 1) := by decide +kernel
theorem dX1_mostWith_49 : decode cX1_mostWith 49 = .ok (.iload 4, 2) := by decide +kernel
theorem dX1_mostWith_51 : decode cX1_mostWith 51 = .ok (.invokestatic 18, 3) := by decide +kernel
theorem dX1_mostWith_54 : decode cX1_mostWith 54 = .ok (.ifCond .eq 23, 3) := by decide +kernel
theorem dX1_mostWith_57 : decode cX1_mostWith 57 = .ok (.iload_n 3, 1) := by decide +kernel
theorem dX1_mostWith_58 : decode cX1_mostWith 58 = .ok (.iconst 1, 1) := by decide +kernel
theorem dX1_mostWith_59 : decode cX1_mostWith 59 = .ok (.aload_n 0, 1) := by decide +kernel
theorem dX1_mostWith_60 : decode cX1_mostWith 60 = .ok (.getfield 15, 3) := by decide +kernel
theorem dX1_mostWith_63 : decode cX1_mostWith 63 = .ok (.iload_n 2, 1) := by decide +kernel
theorem dX1_mostWith_64 : decode cX1_mostWith 64 = .ok (.iconst 1, 1) := by decide +kernel
theorem dX1_mostWith_65 : decode cX1_mostWith 65 = .ok (.iload 4, 2) := by decide +kernel
theorem dX1_mostWith_67 : decode cX1_mostWith 67 = .ok (.ishl, 1) := by decide +kernel
theorem dX1_mostWith_68 : decode cX1_mostWith 68 = .ok (.iconst (-1), 1) := by decide +kernel
theorem dX1_mostWith_69 : decode cX1_mostWith 69 = .ok (.ixor, 1) := by decide +kernel
theorem dX1_mostWith_70 : decode cX1_mostWith 70 = .ok (.iand, 1) := by decide +kernel
theorem dX1_mostWith_71 : decode cX1_mostWith 71 = .ok (.iaload, 1) := by decide +kernel
theorem dX1_mostWith_72 : decode cX1_mostWith 72 = .ok (.iadd, 1) := by decide +kernel
theorem dX1_mostWith_73 : decode cX1_mostWith 73 = .ok (.invokestatic 78, 3) := by decide +kernel
theorem dX1_mostWith_76 : decode cX1_mostWith 76 = .ok (.istore_n 3, 1) := by decide +kernel
theorem dX1_mostWith_77 : decode cX1_mostWith 77 = .ok (.iinc 4 1, 3) := by decide +kernel
theorem dX1_mostWith_80 : decode cX1_mostWith 80 = .ok (.goto (-45), 3) := by decide +kernel
theorem dX1_mostWith_83 : decode cX1_mostWith 83 = .ok (.iload_n 3, 1) := by decide +kernel
theorem dX1_mostWith_84 : decode cX1_mostWith 84 = .ok (.ireturn, 1) := by decide +kernel
theorem dX2_init_0 : decode cX2_init 0 = .ok (.aload_n 0, 1) := by decide +kernel
theorem dX2_init_1 : decode cX2_init 1 = .ok (.aload_n 1, 1) := by decide +kernel
theorem dX2_init_2 : decode cX2_init 2 = .ok (.invokespecial 3, 3) := by decide +kernel
theorem dX2_init_5 : decode cX2_init 5 = .ok (.aload_n 0, 1) := by decide +kernel
theorem dX2_init_6 : decode cX2_init 6 = .ok (.aload_n 2, 1) := by decide +kernel
theorem dX2_init_7 : decode cX2_init 7 = .ok (.putfield 9, 3) := by decide +kernel
theorem dX2_init_10 : decode cX2_init 10 = .ok (.aload_n 0, 1) := by decide +kernel
theorem dX2_init_11 : decode cX2_init 11 = .ok (.iload_n 3, 1) := by decide +kernel
theorem dX2_init_12 : decode cX2_init 12 = .ok (.putfield 15, 3) := by decide +kernel
theorem dX2_init_15 : decode cX2_init 15 = .ok (.return_, 1) := by decide +kernel
theorem dX2_startsLine_0 : decode cX2_startsLine 0 = .ok (.iload_n 1, 1) := by decide +kernel
theorem dX2_startsLine_1 : decode cX2_startsLine 1 = .ok (.bipush 42, 2) := by decide +kernel
theorem dX2_startsLine_3 : decode cX2_startsLine 3 = .ok (.if_icmp .eq 10, 3) := by decide +kernel
theorem dX2_startsLine_6 : decode cX2_startsLine 6 = .ok (.iload_n 1, 1) := by decide +kernel
theorem dX2_startsLine_7 : decode cX2_startsLine 7 = .ok (.invokestatic 19, 3) := by decide +kernel
theorem dX2_startsLine_10 : decode cX2_startsLine 10 = .ok (.ifCond .eq 7, 3) := by decide +kernel
theorem dX2_startsLine_13 : decode cX2_startsLine 13 = .ok (.iconst 1, 1) := by decide +kernel
theorem dX2_startsLine_14 : decode cX2_startsLine 14 = .ok (.goto 4, 3) := by decide +kernel
theorem dX2_startsLine_17 : decode cX2_startsLine 17 = .ok (.iconst 0, 1) := by decide +kernel
theorem dX2_startsLine_18 : decode cX2_startsLine 18 = .ok (.ireturn, 1) := by decide +kernel
theorem dX2_readLine_0 : decode cX2_readLine 0 = .ok (.aload_n 0, 1) := by decide +kernel
theorem dX2_readLine_1 : decode cX2_readLine 1 = .ok (.invokevirtual 25, 3) := by decide +kernel
theorem dX2_readLine_4 : decode cX2_readLine 4 = .ok (.istore_n 1, 1) := by decide +kernel
theorem dX2_readLine_5 : decode cX2_readLine 5 = .ok (.iload_n 1, 1) := by decide +kernel
theorem dX2_readLine_6 : decode cX2_readLine 6 = .ok (.ifCond .ne 5, 3) := by decide +kernel
theorem dX2_readLine_9 : decode cX2_readLine 9 = .ok (.iconst 0, 1) := by decide +kernel
theorem dX2_readLine_10 : decode cX2_readLine 10 = .ok (.ireturn, 1) := by decide +kernel
theorem dX2_readLine_11 : decode cX2_readLine 11 = .ok (.aload_n 0, 1) := by decide +kernel
theorem dX2_readLine_12 : decode cX2_readLine 12 = .ok (.getfield 29, 3) := by decide +kernel
theorem dX2_readLine_15 : decode cX2_readLine 15 = .ok (.invokevirtual 33, 3) := by decide +kernel
theorem dX2_readLine_18 : decode cX2_readLine 18 = .ok (.istore_n 2, 1) := by decide +kernel
theorem dX2_readLine_19 : decode cX2_readLine 19 = .ok (.iload_n 2, 1) := by decide +kernel
theorem dX2_readLine_20 : decode cX2_readLine 20 = .ok (.bipush 61, 2) := by decide +kernel
theorem dX2_readLine_22 : decode cX2_readLine 22 = .ok (.if_icmp .eq 23, 3) := by decide +kernel
theorem dX2_readLine_25 : decode cX2_readLine 25 = .ok (.iload_n 2, 1) := by decide +kernel
theorem dX2_readLine_26 : decode cX2_readLine 26 = .ok (.bipush 43, 2) := by decide +kernel
theorem dX2_readLine_28 : decode cX2_readLine 28 = .ok (.if_icmp .eq 17, 3) := by decide +kernel
theorem dX2_readLine_31 : decode cX2_readLine 31 = .ok (.iload_n 2, 1) := by decide +kernel
theorem dX2_readLine_32 : decode cX2_readLine 32 = .ok (.bipush 45, 2) := by decide +kernel
theorem dX2_readLine_34 : decode cX2_readLine 34 = .ok (.if_icmp .eq 11, 3) := by decide +kernel
theorem dX2_readLine_37 : decode cX2_readLine 37 = .ok (.aload_n 0, 1) := by decide +kernel
theorem dX2_readLine_38 : decode cX2_readLine 38 = .ok (.getfield 29, 3) := by decide +kernel
theorem dX2_readLine_41 : decode cX2_readLine 41 = .ok (.invokevirtual 36, 3) := by decide +kernel
theorem dX2_readLine_44 : decode cX2_readLine 44 = .ok (.ireturn, 1) := by decide +kernel
theorem dX2_readLine_45 : decode cX2_readLine 45 = .ok (.aload_n 0, 1) := by decide +kernel
theorem dX2_readLine_46 : decode cX2_readLine 46 = .ok (.getfield 29, 3) := by decide +kernel
theorem dX2_readLine_49 : decode cX2_readLine 49 = .ok (.dup, 1) := by decide +kernel
theorem dX2_readLine_50 : decode cX2_readLine 50 = .ok (.getfield 40, 3) := by decide +kernel
theorem dX2_readLine_53 : decode cX2_readLine 53 = .ok (.iconst 1, 1) := by decide +kernel
theorem dX2_readLine_54 : decode cX2_readLine 54 = .ok (.iadd, 1) := by decide +kernel
theorem dX2_readLine_55 : decode cX2_readLine 55 = .ok (.putfield 40, 3) := by decide +kernel
theorem dX2_readLine_58 : decode cX2_readLine 58 = .ok (.aload_n 0, 1) := by decide +kernel
theorem dX2_readLine_59 : decode cX2_readLine 59 = .ok (.getfield 29, 3) := by decide +kernel
theorem dX2_readLine_62 : decode cX2_readLine 62 = .ok (.iconst 2, 1) := by decide +kernel
theorem dX2_readLine_63 : decode cX2_readLine 63 = .ok (.invokevirtual 43, 3) := by decide +kernel
theorem dX2_readLine_66 : decode cX2_readLine 66 = .ok (.istore_n 3, 1) := by decide +kernel
theorem dX2_readLine_67 : decode cX2_readLine 67 = .ok (.iload_n 3, 1) := by decide +kernel
theorem dX2_readLine_68 : decode cX2_readLine 68 = .ok (.ifCond .ge 5, 3) := by decide +kernel
theorem dX2_readLine_71 : decode cX2_readLine 71 = .ok (.iconst 0, 1) := by decide +kernel
theorem dX2_readLine_72 : decode cX2_readLine 72 = .ok (.ireturn, 1) := by decide +kernel
theorem dX2_readLine_73 : decode cX2_readLine 73 = .ok (.aload_n 0, 1) := by decide +kernel
theorem dX2_readLine_74 : decode cX2_readLine 74 = .ok (.getfield 9, 3) := by decide +kernel
theorem dX2_readLine_77 : decode cX2_readLine 77 = .ok (.dup, 1) := by decide +kernel
theorem dX2_readLine_78 : decode cX2_readLine 78 = .ok (.getfield 47, 3) := by decide +kernel
theorem dX2_readLine_81 : decode cX2_readLine 81 = .ok (.iconst 1, 1) := by decide +kernel
theorem dX2_readLine_82 : decode cX2_readLine 82 = .ok (.aload_n 0, 1) := by decide +kernel
theorem dX2_readLine_83 : decode cX2_readLine 83 = .ok (.getfield 15, 3) := by decide +kernel
theorem dX2_readLine_86 : decode cX2_readLine 86 = .ok (.ishl, 1) := by decide +kernel
theorem dX2_readLine_87 : decode cX2_readLine 87 = .ok (.ior, 1) := by decide +kernel
theorem dX2_readLine_88 : decode cX2_readLine 88 = .ok (.putfield 47, 3) := by decide +kernel
theorem dX2_readLine_91 : decode cX2_readLine 91 = .ok (.aload_n 0, 1) := by decide +kernel
theorem dX2_readLine_92 : decode cX2_readLine 92 = .ok (.iload_n 1, 1) := by decide +kernel
theorem dX2_readLine_93 : decode cX2_readLine 93 = .ok (.iload_n 2, 1) := by decide +kernel
theorem dX2_readLine_94 : decode cX2_readLine 94 = .ok (.iload_n 3, 1) := by decide +kernel
theorem dX2_readLine_95 : decode cX2_readLine 95 = .ok (.invokevirtual 52, 3) := by decide +kernel
theorem dX2_readLine_98 : decode cX2_readLine 98 = .ok (.iconst 1, 1) := by decide +kernel
theorem dX2_readLine_99 : decode cX2_readLine 99 = .ok (.ireturn, 1) := by decide +kernel
theorem dX2_readFears_0 : decode cX2_readFears 0 = .ok (.aload_n 0, 1) := by decide +kernel
theorem dX2_readFears_1 : decode cX2_readFears 1 = .ok (.getfield 29, 3) := by decide +kernel
theorem dX2_readFears_4 : decode cX2_readFears 4 = .ok (.invokevirtual 33, 3) := by decide +kernel
theorem dX2_readFears_7 : decode cX2_readFears 7 = .ok (.bipush 42, 2) := by decide +kernel
theorem dX2_readFears_9 : decode cX2_readFears 9 = .ok (.if_icmp .ne 19, 3) := by decide +kernel
theorem dX2_readFears_12 : decode cX2_readFears 12 = .ok (.aload_n 0, 1) := by decide +kernel
theorem dX2_readFears_13 : decode cX2_readFears 13 = .ok (.getfield 29, 3) := by decide +kernel
theorem dX2_readFears_16 : decode cX2_readFears 16 = .ok (.dup, 1) := by decide +kernel
theorem dX2_readFears_17 : decode cX2_readFears 17 = .ok (.getfield 40, 3) := by decide +kernel
theorem dX2_readFears_20 : decode cX2_readFears 20 = .ok (.iconst 1, 1) := by decide +kernel
theorem dX2_readFears_21 : decode cX2_readFears 21 = .ok (.iadd, 1) := by decide +kernel
theorem dX2_readFears_22 : decode cX2_readFears 22 = .ok (.putfield 40, 3) := by decide +kernel
theorem dX2_readFears_25 : decode cX2_readFears 25 = .ok (.ldc 56, 2) := by decide +kernel
theorem dX2_readFears_27 : decode cX2_readFears 27 = .ok (.ireturn, 1) := by decide +kernel
theorem dX2_readFears_28 : decode cX2_readFears 28 = .ok (.iconst 0, 1) := by decide +kernel
theorem dX2_readFears_29 : decode cX2_readFears 29 = .ok (.istore_n 1, 1) := by decide +kernel
theorem dX2_readFears_30 : decode cX2_readFears 30 = .ok (.aload_n 0, 1) := by decide +kernel
theorem dX2_readFears_31 : decode cX2_readFears 31 = .ok (.getfield 29, 3) := by decide +kernel
theorem dX2_readFears_34 : decode cX2_readFears 34 = .ok (.getfield 40, 3) := by decide +kernel
theorem dX2_readFears_37 : decode cX2_readFears 37 = .ok (.aload_n 0, 1) := by decide +kernel
theorem dX2_readFears_38 : decode cX2_readFears 38 = .ok (.getfield 29, 3) := by decide +kernel
theorem dX2_readFears_41 : decode cX2_readFears 41 = .ok (.getfield 57, 3) := by decide +kernel
theorem dX2_readFears_44 : decode cX2_readFears 44 = .ok (.if_icmp .ge 76, 3) := by decide +kernel
theorem dX2_readFears_47 : decode cX2_readFears 47 = .ok (.aload_n 0, 1) := by decide +kernel
theorem dX2_readFears_48 : decode cX2_readFears 48 = .ok (.getfield 29, 3) := by decide +kernel
theorem dX2_readFears_51 : decode cX2_readFears 51 = .ok (.invokevirtual 33, 3) := by decide +kernel
theorem dX2_readFears_54 : decode cX2_readFears 54 = .ok (.invokestatic 19, 3) := by decide +kernel
theorem dX2_readFears_57 : decode cX2_readFears 57 = .ok (.ifCond .eq 63, 3) := by decide +kernel
theorem dX2_readFears_60 : decode cX2_readFears 60 = .ok (.aload_n 0, 1) := by decide +kernel
theorem dX2_readFears_61 : decode cX2_readFears 61 = .ok (.getfield 29, 3) := by decide +kernel
theorem dX2_readFears_64 : decode cX2_readFears 64 = .ok (.invokevirtual 33, 3) := by decide +kernel
theorem dX2_readFears_67 : decode cX2_readFears 67 = .ok (.bipush 97, 2) := by decide +kernel
theorem dX2_readFears_69 : decode cX2_readFears 69 = .ok (.isub, 1) := by decide +kernel
theorem dX2_readFears_70 : decode cX2_readFears 70 = .ok (.istore_n 2, 1) := by decide +kernel
theorem dX2_readFears_71 : decode cX2_readFears 71 = .ok (.iload_n 1, 1) := by decide +kernel
theorem dX2_readFears_72 : decode cX2_readFears 72 = .ok (.iload_n 2, 1) := by decide +kernel
theorem dX2_readFears_73 : decode cX2_readFears 73 = .ok (.invokestatic 60, 3) := by decide +kernel
theorem dX2_readFears_76 : decode cX2_readFears 76 = .ok (.ifCond .eq 22, 3) := by decide +kernel
theorem dX2_readFears_79 : decode cX2_readFears 79 = .ok (.aload_n 0, 1) := by decide +kernel
theorem dX2_readFears_80 : decode cX2_readFears 80 = .ok (.getfield 29, 3) := by decide +kernel
theorem dX2_readFears_83 : decode cX2_readFears 83 = .ok (.bipush 6, 2) := by decide +kernel
theorem dX2_readFears_85 : decode cX2_readFears 85 = .ok (.aload_n 0, 1) := by decide +kernel
theorem dX2_readFears_86 : decode cX2_readFears 86 = .ok (.getfield 29, 3) := by decide +kernel
theorem dX2_readFears_89 : decode cX2_readFears 89 = .ok (.getfield 40, 3) := by decide +kernel
theorem dX2_readFears_92 : decode cX2_readFears 92 = .ok (.invokevirtual 64, 3) := by decide +kernel
theorem dX2_readFears_95 : decode cX2_readFears 95 = .ok (.pop, 1) := by decide +kernel
theorem dX2_readFears_96 : decode cX2_readFears 96 = .ok (.iconst 0, 1) := by decide +kernel
theorem dX2_readFears_97 : decode cX2_readFears 97 = .ok (.ireturn, 1) := by decide +kernel
theorem dX2_readFears_98 : decode cX2_readFears 98 = .ok (.iload_n 1, 1) := by decide +kernel
theorem dX2_readFears_99 : decode cX2_readFears 99 = .ok (.iconst 1, 1) := by decide +kernel
theorem dX2_readFears_100 : decode cX2_readFears 100 = .ok (.iload_n 2, 1) := by decide +kernel
theorem dX2_readFears_101 : decode cX2_readFears 101 = .ok (.ishl, 1) := by decide +kernel
theorem dX2_readFears_102 : decode cX2_readFears 102 = .ok (.ior, 1) := by decide +kernel
theorem dX2_readFears_103 : decode cX2_readFears 103 = .ok (.istore_n 1, 1) := by decide +kernel
theorem dX2_readFears_104 : decode cX2_readFears 104 = .ok (.aload_n 0, 1) := by decide +kernel
theorem dX2_readFears_105 : decode cX2_readFears 105 = .ok (.getfield 29, 3) := by decide +kernel
theorem dX2_readFears_108 : decode cX2_readFears 108 = .ok (.dup, 1) := by decide +kernel
theorem dX2_readFears_109 : decode cX2_readFears 109 = .ok (.getfield 40, 3) := by decide +kernel
theorem dX2_readFears_112 : decode cX2_readFears 112 = .ok (.iconst 1, 1) := by decide +kernel
theorem dX2_readFears_113 : decode cX2_readFears 113 = .ok (.iadd, 1) := by decide +kernel
theorem dX2_readFears_114 : decode cX2_readFears 114 = .ok (.putfield 40, 3) := by decide +kernel
theorem dX2_readFears_117 : decode cX2_readFears 117 = .ok (.goto (-87), 3) := by decide +kernel
theorem dX2_readFears_120 : decode cX2_readFears 120 = .ok (.iload_n 1, 1) := by decide +kernel
theorem dX2_readFears_121 : decode cX2_readFears 121 = .ok (.ireturn, 1) := by decide +kernel
theorem dX2_change_0 : decode cX2_change 0 = .ok (.iconst 0, 1) := by decide +kernel
theorem dX2_change_1 : decode cX2_change 1 = .ok (.istore 4, 2) := by decide +kernel
theorem dX2_change_3 : decode cX2_change 3 = .ok (.iload 4, 2) := by decide +kernel
theorem dX2_change_5 : decode cX2_change 5 = .ok (.bipush 16, 2) := by decide +kernel
theorem dX2_change_7 : decode cX2_change 7 = .ok (.if_icmp .ge 73, 3) := by decide +kernel
theorem dX2_change_10 : decode cX2_change 10 = .ok (.iload_n 1, 1) := by decide +kernel
theorem dX2_change_11 : decode cX2_change 11 = .ok (.iload 4, 2) := by decide +kernel
theorem dX2_change_13 : decode cX2_change 13 = .ok (.invokestatic 60, 3) := by decide +kernel
theorem dX2_change_16 : decode cX2_change 16 = .ok (.ifCond .eq 58, 3) := by decide +kernel
theorem dX2_change_19 : decode cX2_change 19 = .ok (.iload_n 2, 1) := by decide +kernel
theorem dX2_change_20 : decode cX2_change 20 = .ok (.bipush 61, 2) := by decide +kernel
theorem dX2_change_22 : decode cX2_change 22 = .ok (.if_icmp .ne 7, 3) := by decide +kernel
theorem dX2_change_25 : decode cX2_change 25 = .ok (.iconst 0, 1) := by decide +kernel
theorem dX2_change_26 : decode cX2_change 26 = .ok (.goto 16, 3) := by decide +kernel
theorem dX2_change_29 : decode cX2_change 29 = .ok (.aload_n 0, 1) := by decide +kernel
theorem dX2_change_30 : decode cX2_change 30 = .ok (.getfield 9, 3) := by decide +kernel
theorem dX2_change_33 : decode cX2_change 33 = .ok (.aload_n 0, 1) := by decide +kernel
theorem dX2_change_34 : decode cX2_change 34 = .ok (.getfield 15, 3) := by decide +kernel
theorem dX2_change_37 : decode cX2_change 37 = .ok (.iload 4, 2) := by decide +kernel
theorem dX2_change_39 : decode cX2_change 39 = .ok (.invokevirtual 67, 3) := by decide +kernel
theorem dX2_change_42 : decode cX2_change 42 = .ok (.istore 5, 2) := by decide +kernel
theorem dX2_change_44 : decode cX2_change 44 = .ok (.aload_n 0, 1) := by decide +kernel
theorem dX2_change_45 : decode cX2_change 45 = .ok (.getfield 9, 3) := by decide +kernel
theorem dX2_change_48 : decode cX2_change 48 = .ok (.aload_n 0, 1) := by decide +kernel
theorem dX2_change_49 : decode cX2_change 49 = .ok (.getfield 15, 3) := by decide +kernel
theorem dX2_change_52 : decode cX2_change 52 = .ok (.iload 4, 2) := by decide +kernel
theorem dX2_change_54 : decode cX2_change 54 = .ok (.iload_n 2, 1) := by decide +kernel
theorem dX2_change_55 : decode cX2_change 55 = .ok (.bipush 45, 2) := by decide +kernel
theorem dX2_change_57 : decode cX2_change 57 = .ok (.if_icmp .ne 10, 3) := by decide +kernel
theorem dX2_change_60 : decode cX2_change 60 = .ok (.iload 5, 2) := by decide +kernel
theorem dX2_change_62 : decode cX2_change 62 = .ok (.iload_n 3, 1) := by decide +kernel
theorem dX2_change_63 : decode cX2_change 63 = .ok (.isub, 1) := by decide +kernel
theorem dX2_change_64 : decode cX2_change 64 = .ok (.goto 7, 3) := by decide +kernel
theorem dX2_change_67 : decode cX2_change 67 = .ok (.iload 5, 2) := by decide +kernel
theorem dX2_change_69 : decode cX2_change 69 = .ok (.iload_n 3, 1) := by decide +kernel
theorem dX2_change_70 : decode cX2_change 70 = .ok (.iadd, 1) := by decide +kernel
theorem dX2_change_71 : decode cX2_change 71 = .ok (.invokevirtual 71, 3) := by decide +kernel
theorem dX2_change_74 : decode cX2_change 74 = .ok (.iinc 4 1, 3) := by decide +kernel
theorem dX2_change_77 : decode cX2_change 77 = .ok (.goto (-74), 3) := by decide +kernel
theorem dX2_change_80 : decode cX2_change 80 = .ok (.return_, 1) := by decide +kernel
theorem dX3_init_0 : decode cX3_init 0 = .ok (.aload_n 0, 1) := by decide +kernel
theorem dX3_init_1 : decode cX3_init 1 = .ok (.invokespecial 3, 3) := by decide +kernel
theorem dX3_init_4 : decode cX3_init 4 = .ok (.aload_n 0, 1) := by decide +kernel
theorem dX3_init_5 : decode cX3_init 5 = .ok (.bipush 12, 2) := by decide +kernel
theorem dX3_init_7 : decode cX3_init 7 = .ok (.newarray .int, 2) := by decide +kernel
theorem dX3_init_9 : decode cX3_init 9 = .ok (.putfield 9, 3) := by decide +kernel
theorem dX3_init_12 : decode cX3_init 12 = .ok (.return_, 1) := by decide +kernel
theorem dX3_lessons_0 : decode cX3_lessons 0 = .ok (.aload_n 0, 1) := by decide +kernel
theorem dX3_lessons_1 : decode cX3_lessons 1 = .ok (.iload_n 2, 1) := by decide +kernel
theorem dX3_lessons_2 : decode cX3_lessons 2 = .ok (.invokevirtual 15, 3) := by decide +kernel
theorem dX3_lessons_5 : decode cX3_lessons 5 = .ok (.ifCond .ne 5, 3) := by decide +kernel
theorem dX3_lessons_8 : decode cX3_lessons 8 = .ok (.iconst (-1), 1) := by decide +kernel
theorem dX3_lessons_9 : decode cX3_lessons 9 = .ok (.ireturn, 1) := by decide +kernel
theorem dX3_lessons_10 : decode cX3_lessons 10 = .ok (.aload_n 0, 1) := by decide +kernel
theorem dX3_lessons_11 : decode cX3_lessons 11 = .ok (.getfield 21, 3) := by decide +kernel
theorem dX3_lessons_14 : decode cX3_lessons 14 = .ok (.iload_n 2, 1) := by decide +kernel
theorem dX3_lessons_15 : decode cX3_lessons 15 = .ok (.iaload, 1) := by decide +kernel
theorem dX3_lessons_16 : decode cX3_lessons 16 = .ok (.istore_n 3, 1) := by decide +kernel
theorem dX3_lessons_17 : decode cX3_lessons 17 = .ok (.sipush 1584, 3) := by decide +kernel
theorem dX3_lessons_20 : decode cX3_lessons 20 = .ok (.istore 4, 2) := by decide +kernel
theorem dX3_lessons_22 : decode cX3_lessons 22 = .ok (.iconst 1, 1) := by decide +kernel
theorem dX3_lessons_23 : decode cX3_lessons 23 = .ok (.aload_n 0, 1) := by decide +kernel
theorem dX3_lessons_24 : decode cX3_lessons 24 = .ok (.getfield 24, 3) := by decide +kernel
theorem dX3_lessons_27 : decode cX3_lessons 27 = .ok (.iload_n 2, 1) := by decide +kernel
theorem dX3_lessons_28 : decode cX3_lessons 28 = .ok (.iaload, 1) := by decide +kernel
theorem dX3_lessons_29 : decode cX3_lessons 29 = .ok (.invokestatic 27, 3) := by decide +kernel
theorem dX3_lessons_32 : decode cX3_lessons 32 = .ok (.istore 5, 2) := by decide +kernel
theorem dX3_lessons_34 : decode cX3_lessons 34 = .ok (.iload 5, 2) := by decide +kernel
theorem dX3_lessons_36 : decode cX3_lessons 36 = .ok (.bipush 99, 2) := by decide +kernel
theorem dX3_lessons_38 : decode cX3_lessons 38 = .ok (.if_icmp .gt 75, 3) := by decide +kernel
theorem dX3_lessons_41 : decode cX3_lessons 41 = .ok (.iload 5, 2) := by decide +kernel
theorem dX3_lessons_43 : decode cX3_lessons 43 = .ok (.aload_n 0, 1) := by decide +kernel
theorem dX3_lessons_44 : decode cX3_lessons 44 = .ok (.iload_n 1, 1) := by decide +kernel
theorem dX3_lessons_45 : decode cX3_lessons 45 = .ok (.iload_n 3, 1) := by decide +kernel
theorem dX3_lessons_46 : decode cX3_lessons 46 = .ok (.invokevirtual 33, 3) := by decide +kernel
theorem dX3_lessons_49 : decode cX3_lessons 49 = .ok (.isub, 1) := by decide +kernel
theorem dX3_lessons_50 : decode cX3_lessons 50 = .ok (.invokestatic 36, 3) := by decide +kernel
theorem dX3_lessons_53 : decode cX3_lessons 53 = .ok (.istore 6, 2) := by decide +kernel
theorem dX3_lessons_55 : decode cX3_lessons 55 = .ok (.iconst 0, 1) := by decide +kernel
theorem dX3_lessons_56 : decode cX3_lessons 56 = .ok (.istore 7, 2) := by decide +kernel
theorem dX3_lessons_58 : decode cX3_lessons 58 = .ok (.iload 7, 2) := by decide +kernel
theorem dX3_lessons_60 : decode cX3_lessons 60 = .ok (.bipush 16, 2) := by decide +kernel
theorem dX3_lessons_62 : decode cX3_lessons 62 = .ok (.if_icmp .ge 36, 3) := by decide +kernel
theorem dX3_lessons_65 : decode cX3_lessons 65 = .ok (.iload 7, 2) := by decide +kernel
theorem dX3_lessons_67 : decode cX3_lessons 67 = .ok (.iload_n 3, 1) := by decide +kernel
theorem dX3_lessons_68 : decode cX3_lessons 68 = .ok (.if_icmp .eq 24, 3) := by decide +kernel
theorem dX3_lessons_71 : decode cX3_lessons 71 = .ok (.iload 6, 2) := by decide +kernel
theorem dX3_lessons_73 : decode cX3_lessons 73 = .ok (.iconst 0, 1) := by decide +kernel
theorem dX3_lessons_74 : decode cX3_lessons 74 = .ok (.aload_n 0, 1) := by decide +kernel
theorem dX3_lessons_75 : decode cX3_lessons 75 = .ok (.iload_n 1, 1) := by decide +kernel
theorem dX3_lessons_76 : decode cX3_lessons 76 = .ok (.iload 7, 2) := by decide +kernel
theorem dX3_lessons_78 : decode cX3_lessons 78 = .ok (.invokevirtual 33, 3) := by decide +kernel
theorem dX3_lessons_81 : decode cX3_lessons 81 = .ok (.iload 5, 2) := by decide +kernel
theorem dX3_lessons_83 : decode cX3_lessons 83 = .ok (.iconst 1, 1) := by decide +kernel
theorem dX3_lessons_84 : decode cX3_lessons 84 = .ok (.isub, 1) := by decide +kernel
theorem dX3_lessons_85 : decode cX3_lessons 85 = .ok (.isub, 1) := by decide +kernel
theorem dX3_lessons_86 : decode cX3_lessons 86 = .ok (.invokestatic 27, 3) := by decide +kernel
theorem dX3_lessons_89 : decode cX3_lessons 89 = .ok (.iadd, 1) := by decide +kernel
theorem dX3_lessons_90 : decode cX3_lessons 90 = .ok (.istore 6, 2) := by decide +kernel
theorem dX3_lessons_92 : decode cX3_lessons 92 = .ok (.iinc 7 1, 3) := by decide +kernel
theorem dX3_lessons_95 : decode cX3_lessons 95 = .ok (.goto (-37), 3) := by decide +kernel
theorem dX3_lessons_98 : decode cX3_lessons 98 = .ok (.iload 4, 2) := by decide +kernel
theorem dX3_lessons_100 : decode cX3_lessons 100 = .ok (.iload 6, 2) := by decide +kernel
theorem dX3_lessons_102 : decode cX3_lessons 102 = .ok (.invokestatic 40, 3) := by decide +kernel
theorem dX3_lessons_105 : decode cX3_lessons 105 = .ok (.istore 4, 2) := by decide +kernel
theorem dX3_lessons_107 : decode cX3_lessons 107 = .ok (.iinc 5 1, 3) := by decide +kernel
theorem dX3_lessons_110 : decode cX3_lessons 110 = .ok (.goto (-76), 3) := by decide +kernel
theorem dX3_lessons_113 : decode cX3_lessons 113 = .ok (.iload 4, 2) := by decide +kernel
theorem dX3_lessons_115 : decode cX3_lessons 115 = .ok (.ireturn, 1) := by decide +kernel
theorem dX3_fewestForAllDoors_0 : decode cX3_fewestForAllDoors 0 = .ok (.sipush 4095, 3) := by decide +kernel
theorem dX3_fewestForAllDoors_3 : decode cX3_fewestForAllDoors 3 = .ok (.istore_n 2, 1) := by decide +kernel
theorem dX3_fewestForAllDoors_4 : decode cX3_fewestForAllDoors 4 = .ok (.bipush (-2), 2) := by decide +kernel
theorem dX3_fewestForAllDoors_6 : decode cX3_fewestForAllDoors 6 = .ok (.istore_n 3, 1) := by decide +kernel
theorem dX3_fewestForAllDoors_7 : decode cX3_fewestForAllDoors 7 = .ok (.bipush 13, 2) := by decide +kernel
theorem dX3_fewestForAllDoors_9 : decode cX3_fewestForAllDoors 9 = .ok (.istore 4, 2) := by decide +kernel
theorem dX3_fewestForAllDoors_11 : decode cX3_fewestForAllDoors 11 = .ok (.iconst 0, 1) := by decide +kernel
theorem dX3_fewestForAllDoors_12 : decode cX3_fewestForAllDoors 12 = .ok (.istore 5, 2) := by decide +kernel
theorem dX3_fewestForAllDoors_14 : decode cX3_fewestForAllDoors 14 = .ok (.iload 5, 2) := by decide +kernel
theorem dX3_fewestForAllDoors_16 : decode cX3_fewestForAllDoors 16 = .ok (.bipush 12, 2) := by decide +kernel
theorem dX3_fewestForAllDoors_18 : decode cX3_fewestForAllDoors 18 = .ok (.if_icmp .ge 22, 3) := by decide +kernel
theorem dX3_fewestForAllDoors_21 : decode cX3_fewestForAllDoors 21 = .ok (.aload_n 0, 1) := by decide +kernel
theorem dX3_fewestForAllDoors_22 : decode cX3_fewestForAllDoors 22 = .ok (.getfield 9, 3) := by decide +kernel
theorem dX3_fewestForAllDoors_25 : decode cX3_fewestForAllDoors 25 = .ok (.iload 5, 2) := by decide +kernel
theorem dX3_fewestForAllDoors_27 : decode cX3_fewestForAllDoors 27 = .ok (.aload_n 1, 1) := by decide +kernel
theorem dX3_fewestForAllDoors_28 : decode cX3_fewestForAllDoors 28 = .ok (.iload 5, 2) := by decide +kernel
theorem dX3_fewestForAllDoors_30 : decode cX3_fewestForAllDoors 30 = .ok (.invokevirtual 43, 3) := by decide +kernel
theorem dX3_fewestForAllDoors_33 : decode cX3_fewestForAllDoors 33 = .ok (.iastore, 1) := by decide +kernel
theorem dX3_fewestForAllDoors_34 : decode cX3_fewestForAllDoors 34 = .ok (.iinc 5 1, 3) := by decide +kernel
theorem dX3_fewestForAllDoors_37 : decode cX3_fewestForAllDoors 37 = .ok (.goto (-23), 3) := by decide +kernel
theorem dX3_fewestForAllDoors_40 : decode cX3_fewestForAllDoors 40 = .ok (.iconst 0, 1) := by decide +kernel
theorem dX3_fewestForAllDoors_41 : decode cX3_fewestForAllDoors 41 = .ok (.istore 5, 2) := by decide +kernel
theorem dX3_fewestForAllDoors_43 : decode cX3_fewestForAllDoors 43 = .ok (.iload 5, 2) := by decide +kernel
theorem dX3_fewestForAllDoors_45 : decode cX3_fewestForAllDoors 45 = .ok (.iload_n 2, 1) := by decide +kernel
theorem dX3_fewestForAllDoors_46 : decode cX3_fewestForAllDoors 46 = .ok (.if_icmp .gt 42, 3) := by decide +kernel
theorem dX3_fewestForAllDoors_49 : decode cX3_fewestForAllDoors 49 = .ok (.iload 5, 2) := by decide +kernel
theorem dX3_fewestForAllDoors_51 : decode cX3_fewestForAllDoors 51 = .ok (.invokestatic 46, 3) := by decide +kernel
theorem dX3_fewestForAllDoors_54 : decode cX3_fewestForAllDoors 54 = .ok (.iload 4, 2) := by decide +kernel
theorem dX3_fewestForAllDoors_56 : decode cX3_fewestForAllDoors 56 = .ok (.if_icmp .ge 26, 3) := by decide +kernel
theorem dX3_fewestForAllDoors_59 : decode cX3_fewestForAllDoors 59 = .ok (.aload_n 0, 1) := by decide +kernel
theorem dX3_fewestForAllDoors_60 : decode cX3_fewestForAllDoors 60 = .ok (.iload 5, 2) := by decide +kernel
theorem dX3_fewestForAllDoors_62 : decode cX3_fewestForAllDoors 62 = .ok (.invokevirtual 51, 3) := by decide +kernel
theorem dX3_fewestForAllDoors_65 : decode cX3_fewestForAllDoors 65 = .ok (.aload_n 1, 1) := by decide +kernel
theorem dX3_fewestForAllDoors_66 : decode cX3_fewestForAllDoors 66 = .ok (.getfield 54, 3) := by decide +kernel
theorem dX3_fewestForAllDoors_69 : decode cX3_fewestForAllDoors 69 = .ok (.if_icmp .ne 13, 3) := by decide +kernel
theorem dX3_fewestForAllDoors_72 : decode cX3_fewestForAllDoors 72 = .ok (.iload 5, 2) := by decide +kernel
theorem dX3_fewestForAllDoors_74 : decode cX3_fewestForAllDoors 74 = .ok (.istore_n 3, 1) := by decide +kernel
theorem dX3_fewestForAllDoors_75 : decode cX3_fewestForAllDoors 75 = .ok (.iload 5, 2) := by decide +kernel
theorem dX3_fewestForAllDoors_77 : decode cX3_fewestForAllDoors 77 = .ok (.invokestatic 46, 3) := by decide +kernel
theorem dX3_fewestForAllDoors_80 : decode cX3_fewestForAllDoors 80 = .ok (.istore 4, 2) := by decide +kernel
theorem dX3_fewestForAllDoors_82 : decode cX3_fewestForAllDoors 82 = .ok (.iinc 5 1, 3) := by decide +kernel
theorem dX3_fewestForAllDoors_85 : decode cX3_fewestForAllDoors 85 = .ok (.goto (-42), 3) := by decide +kernel
theorem dX3_fewestForAllDoors_88 : decode cX3_fewestForAllDoors 88 = .ok (.iload_n 3, 1) := by decide +kernel
theorem dX3_fewestForAllDoors_89 : decode cX3_fewestForAllDoors 89 = .ok (.ireturn, 1) := by decide +kernel
theorem dX3_openedBy_0 : decode cX3_openedBy 0 = .ok (.iconst 0, 1) := by decide +kernel
theorem dX3_openedBy_1 : decode cX3_openedBy 1 = .ok (.istore_n 2, 1) := by decide +kernel
theorem dX3_openedBy_2 : decode cX3_openedBy 2 = .ok (.iconst 0, 1) := by decide +kernel
theorem dX3_openedBy_3 : decode cX3_openedBy 3 = .ok (.istore_n 3, 1) := by decide +kernel
theorem dX3_openedBy_4 : decode cX3_openedBy 4 = .ok (.iload_n 3, 1) := by decide +kernel
theorem dX3_openedBy_5 : decode cX3_openedBy 5 = .ok (.aload_n 0, 1) := by decide +kernel
theorem dX3_openedBy_6 : decode cX3_openedBy 6 = .ok (.getfield 9, 3) := by decide +kernel
theorem dX3_openedBy_9 : decode cX3_openedBy 9 = .ok (.arraylength, 1) := by decide +kernel
theorem dX3_openedBy_10 : decode cX3_openedBy 10 = .ok (.if_icmp .ge 26, 3) := by decide +kernel
theorem dX3_openedBy_13 : decode cX3_openedBy 13 = .ok (.iload_n 1, 1) := by decide +kernel
theorem dX3_openedBy_14 : decode cX3_openedBy 14 = .ok (.iload_n 3, 1) := by decide +kernel
theorem dX3_openedBy_15 : decode cX3_openedBy 15 = .ok (.invokestatic 58, 3) := by decide +kernel
theorem dX3_openedBy_18 : decode cX3_openedBy 18 = .ok (.ifCond .eq 12, 3) := by decide +kernel
theorem dX3_openedBy_21 : decode cX3_openedBy 21 = .ok (.iload_n 2, 1) := by decide +kernel
theorem dX3_openedBy_22 : decode cX3_openedBy 22 = .ok (.aload_n 0, 1) := by decide +kernel
theorem dX3_openedBy_23 : decode cX3_openedBy 23 = .ok (.getfield 9, 3) := by decide +kernel
theorem dX3_openedBy_26 : decode cX3_openedBy 26 = .ok (.iload_n 3, 1) := by decide +kernel
theorem dX3_openedBy_27 : decode cX3_openedBy 27 = .ok (.iaload, 1) := by decide +kernel
theorem dX3_openedBy_28 : decode cX3_openedBy 28 = .ok (.ior, 1) := by decide +kernel
theorem dX3_openedBy_29 : decode cX3_openedBy 29 = .ok (.istore_n 2, 1) := by decide +kernel
theorem dX3_openedBy_30 : decode cX3_openedBy 30 = .ok (.iinc 3 1, 3) := by decide +kernel
theorem dX3_openedBy_33 : decode cX3_openedBy 33 = .ok (.goto (-29), 3) := by decide +kernel
theorem dX3_openedBy_36 : decode cX3_openedBy 36 = .ok (.iload_n 2, 1) := by decide +kernel
theorem dX3_openedBy_37 : decode cX3_openedBy 37 = .ok (.ireturn, 1) := by decide +kernel
theorem dX3_mostLet_0 : decode cX3_mostLet 0 = .ok (.iconst 0, 1) := by decide +kernel
theorem dX3_mostLet_1 : decode cX3_mostLet 1 = .ok (.istore_n 1, 1) := by decide +kernel
theorem dX3_mostLet_2 : decode cX3_mostLet 2 = .ok (.bipush 99, 2) := by decide +kernel
theorem dX3_mostLet_4 : decode cX3_mostLet 4 = .ok (.istore_n 2, 1) := by decide +kernel
theorem dX3_mostLet_5 : decode cX3_mostLet 5 = .ok (.iload_n 2, 1) := by decide +kernel
theorem dX3_mostLet_6 : decode cX3_mostLet 6 = .ok (.ifCond .lt 61, 3) := by decide +kernel
theorem dX3_mostLet_9 : decode cX3_mostLet 9 = .ok (.iconst 0, 1) := by decide +kernel
theorem dX3_mostLet_10 : decode cX3_mostLet 10 = .ok (.istore_n 3, 1) := by decide +kernel
theorem dX3_mostLet_11 : decode cX3_mostLet 11 = .ok (.iload_n 3, 1) := by decide +kernel
theorem dX3_mostLet_12 : decode cX3_mostLet 12 = .ok (.bipush 16, 2) := by decide +kernel
theorem dX3_mostLet_14 : decode cX3_mostLet 14 = .ok (.if_icmp .ge 47, 3) := by decide +kernel
theorem dX3_mostLet_17 : decode cX3_mostLet 17 = .ok (.aload_n 0, 1) := by decide +kernel
theorem dX3_mostLet_18 : decode cX3_mostLet 18 = .ok (.iload_n 3, 1) := by decide +kernel
theorem dX3_mostLet_19 : decode cX3_mostLet 19 = .ok (.invokevirtual 15, 3) := by decide +kernel
theorem dX3_mostLet_22 : decode cX3_mostLet 22 = .ok (.ifCond .eq 33, 3) := by decide +kernel
theorem dX3_mostLet_25 : decode cX3_mostLet 25 = .ok (.aload_n 0, 1) := by decide +kernel
theorem dX3_mostLet_26 : decode cX3_mostLet 26 = .ok (.getfield 24, 3) := by decide +kernel
theorem dX3_mostLet_29 : decode cX3_mostLet 29 = .ok (.iload_n 3, 1) := by decide +kernel
theorem dX3_mostLet_30 : decode cX3_mostLet 30 = .ok (.iaload, 1) := by decide +kernel
theorem dX3_mostLet_31 : decode cX3_mostLet 31 = .ok (.iload_n 2, 1) := by decide +kernel
theorem dX3_mostLet_32 : decode cX3_mostLet 32 = .ok (.if_icmp .ne 23, 3) := by decide +kernel
theorem dX3_mostLet_35 : decode cX3_mostLet 35 = .ok (.aload_n 0, 1) := by decide +kernel
theorem dX3_mostLet_36 : decode cX3_mostLet 36 = .ok (.iload_n 3, 1) := by decide +kernel
theorem dX3_mostLet_37 : decode cX3_mostLet 37 = .ok (.invokevirtual 62, 3) := by decide +kernel
theorem dX3_mostLet_40 : decode cX3_mostLet 40 = .ok (.iload_n 1, 1) := by decide +kernel
theorem dX3_mostLet_41 : decode cX3_mostLet 41 = .ok (.iconst (-1), 1) := by decide +kernel
theorem dX3_mostLet_42 : decode cX3_mostLet 42 = .ok (.ixor, 1) := by decide +kernel
theorem dX3_mostLet_43 : decode cX3_mostLet 43 = .ok (.iand, 1) := by decide +kernel
theorem dX3_mostLet_44 : decode cX3_mostLet 44 = .ok (.istore 4, 2) := by decide +kernel
theorem dX3_mostLet_46 : decode cX3_mostLet 46 = .ok (.iload_n 1, 1) := by decide +kernel
theorem dX3_mostLet_47 : decode cX3_mostLet 47 = .ok (.iload 4, 2) := by decide +kernel
theorem dX3_mostLet_49 : decode cX3_mostLet 49 = .ok (.iload 4, 2) := by decide +kernel
theorem dX3_mostLet_51 : decode cX3_mostLet 51 = .ok (.ineg, 1) := by decide +kernel
theorem dX3_mostLet_52 : decode cX3_mostLet 52 = .ok (.iand, 1) := by decide +kernel
theorem dX3_mostLet_53 : decode cX3_mostLet 53 = .ok (.ior, 1) := by decide +kernel
theorem dX3_mostLet_54 : decode cX3_mostLet 54 = .ok (.istore_n 1, 1) := by decide +kernel
theorem dX3_mostLet_55 : decode cX3_mostLet 55 = .ok (.iinc 3 1, 3) := by decide +kernel
theorem dX3_mostLet_58 : decode cX3_mostLet 58 = .ok (.goto (-47), 3) := by decide +kernel
theorem dX3_mostLet_61 : decode cX3_mostLet 61 = .ok (.iinc 2 (-1), 3) := by decide +kernel
theorem dX3_mostLet_64 : decode cX3_mostLet 64 = .ok (.goto (-59), 3) := by decide +kernel
theorem dX3_mostLet_67 : decode cX3_mostLet 67 = .ok (.iload_n 1, 1) := by decide +kernel
theorem dX3_mostLet_68 : decode cX3_mostLet 68 = .ok (.invokestatic 46, 3) := by decide +kernel
theorem dX3_mostLet_71 : decode cX3_mostLet 71 = .ok (.ireturn, 1) := by decide +kernel
theorem dX3_triesFit_0 : decode cX3_triesFit 0 = .ok (.iconst 0, 1) := by decide +kernel
theorem dX3_triesFit_1 : decode cX3_triesFit 1 = .ok (.istore_n 3, 1) := by decide +kernel
theorem dX3_triesFit_2 : decode cX3_triesFit 2 = .ok (.iload_n 3, 1) := by decide +kernel
theorem dX3_triesFit_3 : decode cX3_triesFit 3 = .ok (.iload_n 2, 1) := by decide +kernel
theorem dX3_triesFit_4 : decode cX3_triesFit 4 = .ok (.if_icmp .ge 38, 3) := by decide +kernel
theorem dX3_triesFit_7 : decode cX3_triesFit 7 = .ok (.aload_n 1, 1) := by decide +kernel
theorem dX3_triesFit_8 : decode cX3_triesFit 8 = .ok (.aload_n 0, 1) := by decide +kernel
theorem dX3_triesFit_9 : decode cX3_triesFit 9 = .ok (.iconst 2, 1) := by decide +kernel
theorem dX3_triesFit_10 : decode cX3_triesFit 10 = .ok (.iload_n 3, 1) := by decide +kernel
theorem dX3_triesFit_11 : decode cX3_triesFit 11 = .ok (.imul, 1) := by decide +kernel
theorem dX3_triesFit_12 : decode cX3_triesFit 12 = .ok (.invokevirtual 65, 3) := by decide +kernel
theorem dX3_triesFit_15 : decode cX3_triesFit 15 = .ok (.invokevirtual 70, 3) := by decide +kernel
theorem dX3_triesFit_18 : decode cX3_triesFit 18 = .ok (.ifCond .eq 16, 3) := by decide +kernel
theorem dX3_triesFit_21 : decode cX3_triesFit 21 = .ok (.aload_n 0, 1) := by decide +kernel
theorem dX3_triesFit_22 : decode cX3_triesFit 22 = .ok (.iconst 2, 1) := by decide +kernel
theorem dX3_triesFit_23 : decode cX3_triesFit 23 = .ok (.iload_n 3, 1) := by decide +kernel
theorem dX3_triesFit_24 : decode cX3_triesFit 24 = .ok (.imul, 1) := by decide +kernel
theorem dX3_triesFit_25 : decode cX3_triesFit 25 = .ok (.iconst 1, 1) := by decide +kernel
theorem dX3_triesFit_26 : decode cX3_triesFit 26 = .ok (.iadd, 1) := by decide +kernel
theorem dX3_triesFit_27 : decode cX3_triesFit 27 = .ok (.invokevirtual 65, 3) := by decide +kernel
theorem dX3_triesFit_30 : decode cX3_triesFit 30 = .ok (.iconst 1, 1) := by decide +kernel
theorem dX3_triesFit_31 : decode cX3_triesFit 31 = .ok (.if_icmp .le 5, 3) := by decide +kernel
theorem dX3_triesFit_34 : decode cX3_triesFit 34 = .ok (.iconst 0, 1) := by decide +kernel
theorem dX3_triesFit_35 : decode cX3_triesFit 35 = .ok (.ireturn, 1) := by decide +kernel
theorem dX3_triesFit_36 : decode cX3_triesFit 36 = .ok (.iinc 3 1, 3) := by decide +kernel
theorem dX3_triesFit_39 : decode cX3_triesFit 39 = .ok (.goto (-37), 3) := by decide +kernel
theorem dX3_triesFit_42 : decode cX3_triesFit 42 = .ok (.iconst 1, 1) := by decide +kernel
theorem dX3_triesFit_43 : decode cX3_triesFit 43 = .ok (.ireturn, 1) := by decide +kernel
theorem dX3_possibleFears_0 : decode cX3_possibleFears 0 = .ok (.iconst 0, 1) := by decide +kernel
theorem dX3_possibleFears_1 : decode cX3_possibleFears 1 = .ok (.istore_n 3, 1) := by decide +kernel
theorem dX3_possibleFears_2 : decode cX3_possibleFears 2 = .ok (.iconst 0, 1) := by decide +kernel
theorem dX3_possibleFears_3 : decode cX3_possibleFears 3 = .ok (.istore 4, 2) := by decide +kernel
theorem dX3_possibleFears_5 : decode cX3_possibleFears 5 = .ok (.iload 4, 2) := by decide +kernel
theorem dX3_possibleFears_7 : decode cX3_possibleFears 7 = .ok (.bipush 16, 2) := by decide +kernel
theorem dX3_possibleFears_9 : decode cX3_possibleFears 9 = .ok (.if_icmp .ge 35, 3) := by decide +kernel
theorem dX3_possibleFears_12 : decode cX3_possibleFears 12 = .ok (.aload_n 0, 1) := by decide +kernel
theorem dX3_possibleFears_13 : decode cX3_possibleFears 13 = .ok (.aload_n 1, 1) := by decide +kernel
theorem dX3_possibleFears_14 : decode cX3_possibleFears 14 = .ok (.iload_n 2, 1) := by decide +kernel
theorem dX3_possibleFears_15 : decode cX3_possibleFears 15 = .ok (.iload 4, 2) := by decide +kernel
theorem dX3_possibleFears_17 : decode cX3_possibleFears 17 = .ok (.invokestatic 73, 3) := by decide +kernel
theorem dX3_possibleFears_20 : decode cX3_possibleFears 20 = .ok (.aload_n 0, 1) := by decide +kernel
theorem dX3_possibleFears_21 : decode cX3_possibleFears 21 = .ok (.aload_n 1, 1) := by decide +kernel
theorem dX3_possibleFears_22 : decode cX3_possibleFears 22 = .ok (.iload_n 2, 1) := by decide +kernel
theorem dX3_possibleFears_23 : decode cX3_possibleFears 23 = .ok (.iload 4, 2) := by decide +kernel
theorem dX3_possibleFears_25 : decode cX3_possibleFears 25 = .ok (.invokestatic 77, 3) := by decide +kernel
theorem dX3_possibleFears_28 : decode cX3_possibleFears 28 = .ok (.if_icmp .gt 10, 3) := by decide +kernel
theorem dX3_possibleFears_31 : decode cX3_possibleFears 31 = .ok (.iload_n 3, 1) := by decide +kernel
theorem dX3_possibleFears_32 : decode cX3_possibleFears 32 = .ok (.iconst 1, 1) := by decide +kernel
theorem dX3_possibleFears_33 : decode cX3_possibleFears 33 = .ok (.iload 4, 2) := by decide +kernel
theorem dX3_possibleFears_35 : decode cX3_possibleFears 35 = .ok (.ishl, 1) := by decide +kernel
theorem dX3_possibleFears_36 : decode cX3_possibleFears 36 = .ok (.ior, 1) := by decide +kernel
theorem dX3_possibleFears_37 : decode cX3_possibleFears 37 = .ok (.istore_n 3, 1) := by decide +kernel
theorem dX3_possibleFears_38 : decode cX3_possibleFears 38 = .ok (.iinc 4 1, 3) := by decide +kernel
theorem dX3_possibleFears_41 : decode cX3_possibleFears 41 = .ok (.goto (-36), 3) := by decide +kernel
theorem dX3_possibleFears_44 : decode cX3_possibleFears 44 = .ok (.iload_n 3, 1) := by decide +kernel
theorem dX3_possibleFears_45 : decode cX3_possibleFears 45 = .ok (.ireturn, 1) := by decide +kernel
theorem dX3_leastStrength_0 : decode cX3_leastStrength 0 = .ok (.iconst 0, 1) := by decide +kernel
theorem dX3_leastStrength_1 : decode cX3_leastStrength 1 = .ok (.istore 4, 2) := by decide +kernel
theorem dX3_leastStrength_3 : decode cX3_leastStrength 3 = .ok (.iconst 0, 1) := by decide +kernel
theorem dX3_leastStrength_4 : decode cX3_leastStrength 4 = .ok (.istore 5, 2) := by decide +kernel
theorem dX3_leastStrength_6 : decode cX3_leastStrength 6 = .ok (.iload 5, 2) := by decide +kernel
theorem dX3_leastStrength_8 : decode cX3_leastStrength 8 = .ok (.iload_n 2, 1) := by decide +kernel
theorem dX3_leastStrength_9 : decode cX3_leastStrength 9 = .ok (.if_icmp .ge 58, 3) := by decide +kernel
theorem dX3_leastStrength_12 : decode cX3_leastStrength 12 = .ok (.aload_n 0, 1) := by decide +kernel
theorem dX3_leastStrength_13 : decode cX3_leastStrength 13 = .ok (.iconst 2, 1) := by decide +kernel
theorem dX3_leastStrength_14 : decode cX3_leastStrength 14 = .ok (.iload 5, 2) := by decide +kernel
theorem dX3_leastStrength_16 : decode cX3_leastStrength 16 = .ok (.imul, 1) := by decide +kernel
theorem dX3_leastStrength_17 : decode cX3_leastStrength 17 = .ok (.invokevirtual 65, 3) := by decide +kernel
theorem dX3_leastStrength_20 : decode cX3_leastStrength 20 = .ok (.istore 6, 2) := by decide +kernel
theorem dX3_leastStrength_22 : decode cX3_leastStrength 22 = .ok (.aload_n 0, 1) := by decide +kernel
theorem dX3_leastStrength_23 : decode cX3_leastStrength 23 = .ok (.iconst 2, 1) := by decide +kernel
theorem dX3_leastStrength_24 : decode cX3_leastStrength 24 = .ok (.iload 5, 2) := by decide +kernel
theorem dX3_leastStrength_26 : decode cX3_leastStrength 26 = .ok (.imul, 1) := by decide +kernel
theorem dX3_leastStrength_27 : decode cX3_leastStrength 27 = .ok (.iconst 1, 1) := by decide +kernel
theorem dX3_leastStrength_28 : decode cX3_leastStrength 28 = .ok (.iadd, 1) := by decide +kernel
theorem dX3_leastStrength_29 : decode cX3_leastStrength 29 = .ok (.invokevirtual 65, 3) := by decide +kernel
theorem dX3_leastStrength_32 : decode cX3_leastStrength 32 = .ok (.ifCond .ne 29, 3) := by decide +kernel
theorem dX3_leastStrength_35 : decode cX3_leastStrength 35 = .ok (.aload_n 1, 1) := by decide +kernel
theorem dX3_leastStrength_36 : decode cX3_leastStrength 36 = .ok (.iload 6, 2) := by decide +kernel
theorem dX3_leastStrength_38 : decode cX3_leastStrength 38 = .ok (.invokevirtual 80, 3) := by decide +kernel
theorem dX3_leastStrength_41 : decode cX3_leastStrength 41 = .ok (.iload_n 3, 1) := by decide +kernel
theorem dX3_leastStrength_42 : decode cX3_leastStrength 42 = .ok (.if_icmp .ne 19, 3) := by decide +kernel
theorem dX3_leastStrength_45 : decode cX3_leastStrength 45 = .ok (.iload 4, 2) := by decide +kernel
theorem dX3_leastStrength_47 : decode cX3_leastStrength 47 = .ok (.aload_n 1, 1) := by decide +kernel
theorem dX3_leastStrength_48 : decode cX3_leastStrength 48 = .ok (.iload 6, 2) := by decide +kernel
theorem dX3_leastStrength_50 : decode cX3_leastStrength 50 = .ok (.iload_n 3, 1) := by decide +kernel
theorem dX3_leastStrength_51 : decode cX3_leastStrength 51 = .ok (.invokevirtual 33, 3) := by decide +kernel
theorem dX3_leastStrength_54 : decode cX3_leastStrength 54 = .ok (.iconst 1, 1) := by decide +kernel
theorem dX3_leastStrength_55 : decode cX3_leastStrength 55 = .ok (.iadd, 1) := by decide +kernel
theorem dX3_leastStrength_56 : decode cX3_leastStrength 56 = .ok (.invokestatic 27, 3) := by decide +kernel
theorem dX3_leastStrength_59 : decode cX3_leastStrength 59 = .ok (.istore 4, 2) := by decide +kernel
theorem dX3_leastStrength_61 : decode cX3_leastStrength 61 = .ok (.iinc 5 1, 3) := by decide +kernel
theorem dX3_leastStrength_64 : decode cX3_leastStrength 64 = .ok (.goto (-58), 3) := by decide +kernel
theorem dX3_leastStrength_67 : decode cX3_leastStrength 67 = .ok (.iload 4, 2) := by decide +kernel
theorem dX3_leastStrength_69 : decode cX3_leastStrength 69 = .ok (.ireturn, 1) := by decide +kernel
theorem dX3_greatestStrength_0 : decode cX3_greatestStrength 0 = .ok (.bipush 99, 2) := by decide +kernel
theorem dX3_greatestStrength_2 : decode cX3_greatestStrength 2 = .ok (.istore 4, 2) := by decide +kernel
theorem dX3_greatestStrength_4 : decode cX3_greatestStrength 4 = .ok (.iconst 0, 1) := by decide +kernel
theorem dX3_greatestStrength_5 : decode cX3_greatestStrength 5 = .ok (.istore 5, 2) := by decide +kernel
theorem dX3_greatestStrength_7 : decode cX3_greatestStrength 7 = .ok (.iload 5, 2) := by decide +kernel
theorem dX3_greatestStrength_9 : decode cX3_greatestStrength 9 = .ok (.iload_n 2, 1) := by decide +kernel
theorem dX3_greatestStrength_10 : decode cX3_greatestStrength 10 = .ok (.if_icmp .ge 65, 3) := by decide +kernel
theorem dX3_greatestStrength_13 : decode cX3_greatestStrength 13 = .ok (.aload_n 0, 1) := by decide +kernel
theorem dX3_greatestStrength_14 : decode cX3_greatestStrength 14 = .ok (.iconst 2, 1) := by decide +kernel
theorem dX3_greatestStrength_15 : decode cX3_greatestStrength 15 = .ok (.iload 5, 2) := by decide +kernel
theorem dX3_greatestStrength_17 : decode cX3_greatestStrength 17 = .ok (.imul, 1) := by decide +kernel
theorem dX3_greatestStrength_18 : decode cX3_greatestStrength 18 = .ok (.invokevirtual 65, 3) := by decide +kernel
theorem dX3_greatestStrength_21 : decode cX3_greatestStrength 21 = .ok (.istore 6, 2) := by decide +kernel
theorem dX3_greatestStrength_23 : decode cX3_greatestStrength 23 = .ok (.aload_n 0, 1) := by decide +kernel
theorem dX3_greatestStrength_24 : decode cX3_greatestStrength 24 = .ok (.iconst 2, 1) := by decide +kernel
theorem dX3_greatestStrength_25 : decode cX3_greatestStrength 25 = .ok (.iload 5, 2) := by decide +kernel
theorem dX3_greatestStrength_27 : decode cX3_greatestStrength 27 = .ok (.imul, 1) := by decide +kernel
theorem dX3_greatestStrength_28 : decode cX3_greatestStrength 28 = .ok (.iconst 1, 1) := by decide +kernel
theorem dX3_greatestStrength_29 : decode cX3_greatestStrength 29 = .ok (.iadd, 1) := by decide +kernel
theorem dX3_greatestStrength_30 : decode cX3_greatestStrength 30 = .ok (.invokevirtual 65, 3) := by decide +kernel
theorem dX3_greatestStrength_33 : decode cX3_greatestStrength 33 = .ok (.iconst 1, 1) := by decide +kernel
theorem dX3_greatestStrength_34 : decode cX3_greatestStrength 34 = .ok (.if_icmp .ne 35, 3) := by decide +kernel
theorem dX3_greatestStrength_37 : decode cX3_greatestStrength 37 = .ok (.aload_n 1, 1) := by decide +kernel
theorem dX3_greatestStrength_38 : decode cX3_greatestStrength 38 = .ok (.iload 6, 2) := by decide +kernel
theorem dX3_greatestStrength_40 : decode cX3_greatestStrength 40 = .ok (.invokevirtual 80, 3) := by decide +kernel
theorem dX3_greatestStrength_43 : decode cX3_greatestStrength 43 = .ok (.iload_n 3, 1) := by decide +kernel
theorem dX3_greatestStrength_44 : decode cX3_greatestStrength 44 = .ok (.if_icmp .ne 13, 3) := by decide +kernel
theorem dX3_greatestStrength_47 : decode cX3_greatestStrength 47 = .ok (.aload_n 1, 1) := by decide +kernel
theorem dX3_greatestStrength_48 : decode cX3_greatestStrength 48 = .ok (.iload 6, 2) := by decide +kernel
theorem dX3_greatestStrength_50 : decode cX3_greatestStrength 50 = .ok (.iload_n 3, 1) := by decide +kernel
theorem dX3_greatestStrength_51 : decode cX3_greatestStrength 51 = .ok (.invokevirtual 33, 3) := by decide +kernel
theorem dX3_greatestStrength_54 : decode cX3_greatestStrength 54 = .ok (.goto 4, 3) := by decide +kernel
theorem dX3_greatestStrength_57 : decode cX3_greatestStrength 57 = .ok (.iconst (-1), 1) := by decide +kernel
theorem dX3_greatestStrength_58 : decode cX3_greatestStrength 58 = .ok (.istore 7, 2) := by decide +kernel
theorem dX3_greatestStrength_60 : decode cX3_greatestStrength 60 = .ok (.iload 4, 2) := by decide +kernel
theorem dX3_greatestStrength_62 : decode cX3_greatestStrength 62 = .ok (.iload 7, 2) := by decide +kernel
theorem dX3_greatestStrength_64 : decode cX3_greatestStrength 64 = .ok (.invokestatic 40, 3) := by decide +kernel
theorem dX3_greatestStrength_67 : decode cX3_greatestStrength 67 = .ok (.istore 4, 2) := by decide +kernel
theorem dX3_greatestStrength_69 : decode cX3_greatestStrength 69 = .ok (.iinc 5 1, 3) := by decide +kernel
theorem dX3_greatestStrength_72 : decode cX3_greatestStrength 72 = .ok (.goto (-65), 3) := by decide +kernel
theorem dX3_greatestStrength_75 : decode cX3_greatestStrength 75 = .ok (.iload 4, 2) := by decide +kernel
theorem dX3_greatestStrength_77 : decode cX3_greatestStrength 77 = .ok (.ireturn, 1) := by decide +kernel
theorem dX3_bestToSend_0 : decode cX3_bestToSend 0 = .ok (.bipush (-2), 2) := by decide +kernel
theorem dX3_bestToSend_2 : decode cX3_bestToSend 2 = .ok (.istore_n 2, 1) := by decide +kernel
theorem dX3_bestToSend_3 : decode cX3_bestToSend 3 = .ok (.bipush 17, 2) := by decide +kernel
theorem dX3_bestToSend_5 : decode cX3_bestToSend 5 = .ok (.istore_n 3, 1) := by decide +kernel
theorem dX3_bestToSend_6 : decode cX3_bestToSend 6 = .ok (.iconst 0, 1) := by decide +kernel
theorem dX3_bestToSend_7 : decode cX3_bestToSend 7 = .ok (.istore 4, 2) := by decide +kernel
theorem dX3_bestToSend_9 : decode cX3_bestToSend 9 = .ok (.iload 4, 2) := by decide +kernel
theorem dX3_bestToSend_11 : decode cX3_bestToSend 11 = .ok (.bipush 12, 2) := by decide +kernel
theorem dX3_bestToSend_13 : decode cX3_bestToSend 13 = .ok (.if_icmp .ge 40, 3) := by decide +kernel
theorem dX3_bestToSend_16 : decode cX3_bestToSend 16 = .ok (.aload_n 0, 1) := by decide +kernel
theorem dX3_bestToSend_17 : decode cX3_bestToSend 17 = .ok (.iload 4, 2) := by decide +kernel
theorem dX3_bestToSend_19 : decode cX3_bestToSend 19 = .ok (.invokevirtual 70, 3) := by decide +kernel
theorem dX3_bestToSend_22 : decode cX3_bestToSend 22 = .ok (.ifCond .eq 25, 3) := by decide +kernel
theorem dX3_bestToSend_25 : decode cX3_bestToSend 25 = .ok (.aload_n 0, 1) := by decide +kernel
theorem dX3_bestToSend_26 : decode cX3_bestToSend 26 = .ok (.iload_n 1, 1) := by decide +kernel
theorem dX3_bestToSend_27 : decode cX3_bestToSend 27 = .ok (.iload 4, 2) := by decide +kernel
theorem dX3_bestToSend_29 : decode cX3_bestToSend 29 = .ok (.invokestatic 83, 3) := by decide +kernel
theorem dX3_bestToSend_32 : decode cX3_bestToSend 32 = .ok (.iload_n 3, 1) := by decide +kernel
theorem dX3_bestToSend_33 : decode cX3_bestToSend 33 = .ok (.if_icmp .ge 14, 3) := by decide +kernel
theorem dX3_bestToSend_36 : decode cX3_bestToSend 36 = .ok (.iload 4, 2) := by decide +kernel
theorem dX3_bestToSend_38 : decode cX3_bestToSend 38 = .ok (.istore_n 2, 1) := by decide +kernel
theorem dX3_bestToSend_39 : decode cX3_bestToSend 39 = .ok (.aload_n 0, 1) := by decide +kernel
theorem dX3_bestToSend_40 : decode cX3_bestToSend 40 = .ok (.iload_n 1, 1) := by decide +kernel
theorem dX3_bestToSend_41 : decode cX3_bestToSend 41 = .ok (.iload 4, 2) := by decide +kernel
theorem dX3_bestToSend_43 : decode cX3_bestToSend 43 = .ok (.invokestatic 83, 3) := by decide +kernel
theorem dX3_bestToSend_46 : decode cX3_bestToSend 46 = .ok (.istore_n 3, 1) := by decide +kernel
theorem dX3_bestToSend_47 : decode cX3_bestToSend 47 = .ok (.iinc 4 1, 3) := by decide +kernel
theorem dX3_bestToSend_50 : decode cX3_bestToSend 50 = .ok (.goto (-41), 3) := by decide +kernel
theorem dX3_bestToSend_53 : decode cX3_bestToSend 53 = .ok (.iload_n 2, 1) := by decide +kernel
theorem dX3_bestToSend_54 : decode cX3_bestToSend 54 = .ok (.ireturn, 1) := by decide +kernel
theorem dX3_leftAtWorst_0 : decode cX3_leftAtWorst 0 = .ok (.iload_n 1, 1) := by decide +kernel
theorem dX3_leftAtWorst_1 : decode cX3_leftAtWorst 1 = .ok (.invokestatic 46, 3) := by decide +kernel
theorem dX3_leftAtWorst_4 : decode cX3_leftAtWorst 4 = .ok (.istore_n 3, 1) := by decide +kernel
theorem dX3_leftAtWorst_5 : decode cX3_leftAtWorst 5 = .ok (.iload_n 1, 1) := by decide +kernel
theorem dX3_leftAtWorst_6 : decode cX3_leftAtWorst 6 = .ok (.aload_n 0, 1) := by decide +kernel
theorem dX3_leftAtWorst_7 : decode cX3_leftAtWorst 7 = .ok (.iload_n 2, 1) := by decide +kernel
theorem dX3_leftAtWorst_8 : decode cX3_leftAtWorst 8 = .ok (.invokevirtual 80, 3) := by decide +kernel
theorem dX3_leftAtWorst_11 : decode cX3_leftAtWorst 11 = .ok (.invokestatic 58, 3) := by decide +kernel
theorem dX3_leftAtWorst_14 : decode cX3_leftAtWorst 14 = .ok (.ifCond .eq 13, 3) := by decide +kernel
theorem dX3_leftAtWorst_17 : decode cX3_leftAtWorst 17 = .ok (.iconst 1, 1) := by decide +kernel
theorem dX3_leftAtWorst_18 : decode cX3_leftAtWorst 18 = .ok (.iload_n 3, 1) := by decide +kernel
theorem dX3_leftAtWorst_19 : decode cX3_leftAtWorst 19 = .ok (.iconst 1, 1) := by decide +kernel
theorem dX3_leftAtWorst_20 : decode cX3_leftAtWorst 20 = .ok (.isub, 1) := by decide +kernel
theorem dX3_leftAtWorst_21 : decode cX3_leftAtWorst 21 = .ok (.invokestatic 27, 3) := by decide +kernel
theorem dX3_leftAtWorst_24 : decode cX3_leftAtWorst 24 = .ok (.goto 4, 3) := by decide +kernel
theorem dX3_leftAtWorst_27 : decode cX3_leftAtWorst 27 = .ok (.iload_n 3, 1) := by decide +kernel
theorem dX3_leftAtWorst_28 : decode cX3_leftAtWorst 28 = .ok (.ireturn, 1) := by decide +kernel
theorem dX4_init_0 : decode cX4_init 0 = .ok (.aload_n 0, 1) := by decide +kernel
theorem dX4_init_1 : decode cX4_init 1 = .ok (.invokespecial 3, 3) := by decide +kernel
theorem dX4_init_4 : decode cX4_init 4 = .ok (.aload_n 0, 1) := by decide +kernel
theorem dX4_init_5 : decode cX4_init 5 = .ok (.sipush 256, 3) := by decide +kernel
theorem dX4_init_8 : decode cX4_init 8 = .ok (.newarray .int, 2) := by decide +kernel
theorem dX4_init_10 : decode cX4_init 10 = .ok (.putfield 11, 3) := by decide +kernel
theorem dX4_init_13 : decode cX4_init 13 = .ok (.aload_n 0, 1) := by decide +kernel
theorem dX4_init_14 : decode cX4_init 14 = .ok (.sipush 256, 3) := by decide +kernel
theorem dX4_init_17 : decode cX4_init 17 = .ok (.newarray .int, 2) := by decide +kernel
theorem dX4_init_19 : decode cX4_init 19 = .ok (.putfield 15, 3) := by decide +kernel
theorem dX4_init_22 : decode cX4_init 22 = .ok (.aload_n 0, 1) := by decide +kernel
theorem dX4_init_23 : decode cX4_init 23 = .ok (.iconst 0, 1) := by decide +kernel
theorem dX4_init_24 : decode cX4_init 24 = .ok (.putfield 18, 3) := by decide +kernel
theorem dX4_init_27 : decode cX4_init 27 = .ok (.aload_n 0, 1) := by decide +kernel
theorem dX4_init_28 : decode cX4_init 28 = .ok (.bipush 16, 2) := by decide +kernel
theorem dX4_init_30 : decode cX4_init 30 = .ok (.newarray .int, 2) := by decide +kernel
theorem dX4_init_32 : decode cX4_init 32 = .ok (.putfield 22, 3) := by decide +kernel
theorem dX4_init_35 : decode cX4_init 35 = .ok (.aload_n 0, 1) := by decide +kernel
theorem dX4_init_36 : decode cX4_init 36 = .ok (.bipush 16, 2) := by decide +kernel
theorem dX4_init_38 : decode cX4_init 38 = .ok (.newarray .int, 2) := by decide +kernel
theorem dX4_init_40 : decode cX4_init 40 = .ok (.putfield 25, 3) := by decide +kernel
theorem dX4_init_43 : decode cX4_init 43 = .ok (.aload_n 0, 1) := by decide +kernel
theorem dX4_init_44 : decode cX4_init 44 = .ok (.bipush 16, 2) := by decide +kernel
theorem dX4_init_46 : decode cX4_init 46 = .ok (.newarray .int, 2) := by decide +kernel
theorem dX4_init_48 : decode cX4_init 48 = .ok (.putfield 28, 3) := by decide +kernel
theorem dX4_init_51 : decode cX4_init 51 = .ok (.aload_n 0, 1) := by decide +kernel
theorem dX4_init_52 : decode cX4_init 52 = .ok (.iconst 0, 1) := by decide +kernel
theorem dX4_init_53 : decode cX4_init 53 = .ok (.putfield 31, 3) := by decide +kernel
theorem dX4_init_56 : decode cX4_init 56 = .ok (.aload_n 0, 1) := by decide +kernel
theorem dX4_init_57 : decode cX4_init 57 = .ok (.ldc 34, 2) := by decide +kernel
theorem dX4_init_59 : decode cX4_init 59 = .ok (.invokevirtual 36, 3) := by decide +kernel
theorem dX4_init_62 : decode cX4_init 62 = .ok (.newarray .int, 2) := by decide +kernel
theorem dX4_init_64 : decode cX4_init 64 = .ok (.putfield 42, 3) := by decide +kernel
theorem dX4_init_67 : decode cX4_init 67 = .ok (.aload_n 0, 1) := by decide +kernel
theorem dX4_init_68 : decode cX4_init 68 = .ok (.bipush 32, 2) := by decide +kernel
theorem dX4_init_70 : decode cX4_init 70 = .ok (.newarray .int, 2) := by decide +kernel
theorem dX4_init_72 : decode cX4_init 72 = .ok (.putfield 45, 3) := by decide +kernel
theorem dX4_init_75 : decode cX4_init 75 = .ok (.aload_n 0, 1) := by decide +kernel
theorem dX4_init_76 : decode cX4_init 76 = .ok (.iconst 0, 1) := by decide +kernel
theorem dX4_init_77 : decode cX4_init 77 = .ok (.putfield 48, 3) := by decide +kernel
theorem dX4_init_80 : decode cX4_init 80 = .ok (.return_, 1) := by decide +kernel
theorem dX4_clear_0 : decode cX4_clear 0 = .ok (.aload_n 0, 1) := by decide +kernel
theorem dX4_clear_1 : decode cX4_clear 1 = .ok (.iconst 0, 1) := by decide +kernel
theorem dX4_clear_2 : decode cX4_clear 2 = .ok (.putfield 18, 3) := by decide +kernel
theorem dX4_clear_5 : decode cX4_clear 5 = .ok (.aload_n 0, 1) := by decide +kernel
theorem dX4_clear_6 : decode cX4_clear 6 = .ok (.iconst 0, 1) := by decide +kernel
theorem dX4_clear_7 : decode cX4_clear 7 = .ok (.putfield 31, 3) := by decide +kernel
theorem dX4_clear_10 : decode cX4_clear 10 = .ok (.return_, 1) := by decide +kernel
theorem dX4_startRule_0 : decode cX4_startRule 0 = .ok (.aload_n 0, 1) := by decide +kernel
theorem dX4_startRule_1 : decode cX4_startRule 1 = .ok (.getfield 31, 3) := by decide +kernel
theorem dX4_startRule_4 : decode cX4_startRule 4 = .ok (.bipush 16, 2) := by decide +kernel
theorem dX4_startRule_6 : decode cX4_startRule 6 = .ok (.if_icmp .ge 26, 3) := by decide +kernel
theorem dX4_startRule_9 : decode cX4_startRule 9 = .ok (.aload_n 0, 1) := by decide +kernel
theorem dX4_startRule_10 : decode cX4_startRule 10 = .ok (.getfield 22, 3) := by decide +kernel
theorem dX4_startRule_13 : decode cX4_startRule 13 = .ok (.aload_n 0, 1) := by decide +kernel
theorem dX4_startRule_14 : decode cX4_startRule 14 = .ok (.getfield 31, 3) := by decide +kernel
theorem dX4_startRule_17 : decode cX4_startRule 17 = .ok (.iload_n 1, 1) := by decide +kernel
theorem dX4_startRule_18 : decode cX4_startRule 18 = .ok (.iastore, 1) := by decide +kernel
theorem dX4_startRule_19 : decode cX4_startRule 19 = .ok (.aload_n 0, 1) := by decide +kernel
theorem dX4_startRule_20 : decode cX4_startRule 20 = .ok (.getfield 25, 3) := by decide +kernel
theorem dX4_startRule_23 : decode cX4_startRule 23 = .ok (.aload_n 0, 1) := by decide +kernel
theorem dX4_startRule_24 : decode cX4_startRule 24 = .ok (.getfield 31, 3) := by decide +kernel
theorem dX4_startRule_27 : decode cX4_startRule 27 = .ok (.aload_n 0, 1) := by decide +kernel
theorem dX4_startRule_28 : decode cX4_startRule 28 = .ok (.getfield 18, 3) := by decide +kernel
theorem dX4_startRule_31 : decode cX4_startRule 31 = .ok (.iastore, 1) := by decide +kernel
theorem dX4_startRule_32 : decode cX4_startRule 32 = .ok (.return_, 1) := by decide +kernel
theorem dX4_startCondition_0 : decode cX4_startCondition 0 = .ok (.aload_n 0, 1) := by decide +kernel
theorem dX4_startCondition_1 : decode cX4_startCondition 1 = .ok (.getfield 31, 3) := by decide +kernel
theorem dX4_startCondition_4 : decode cX4_startCondition 4 = .ok (.bipush 16, 2) := by decide +kernel
theorem dX4_startCondition_6 : decode cX4_startCondition 6 = .ok (.if_icmp .ge 16, 3) := by decide +kernel
theorem dX4_startCondition_9 : decode cX4_startCondition 9 = .ok (.aload_n 0, 1) := by decide +kernel
theorem dX4_startCondition_10 : decode cX4_startCondition 10 = .ok (.getfield 28, 3) := by decide +kernel
theorem dX4_startCondition_13 : decode cX4_startCondition 13 = .ok (.aload_n 0, 1) := by decide +kernel
theorem dX4_startCondition_14 : decode cX4_startCondition 14 = .ok (.getfield 31, 3) := by decide +kernel
theorem dX4_startCondition_17 : decode cX4_startCondition 17 = .ok (.aload_n 0, 1) := by decide +kernel
theorem dX4_startCondition_18 : decode cX4_startCondition 18 = .ok (.getfield 18, 3) := by decide +kernel
theorem dX4_startCondition_21 : decode cX4_startCondition 21 = .ok (.iastore, 1) := by decide +kernel
theorem dX4_startCondition_22 : decode cX4_startCondition 22 = .ok (.return_, 1) := by decide +kernel
theorem dX4_endRule_0 : decode cX4_endRule 0 = .ok (.aload_n 0, 1) := by decide +kernel
theorem dX4_endRule_1 : decode cX4_endRule 1 = .ok (.bipush 16, 2) := by decide +kernel
theorem dX4_endRule_3 : decode cX4_endRule 3 = .ok (.aload_n 0, 1) := by decide +kernel
theorem dX4_endRule_4 : decode cX4_endRule 4 = .ok (.getfield 31, 3) := by decide +kernel
theorem dX4_endRule_7 : decode cX4_endRule 7 = .ok (.iconst 1, 1) := by decide +kernel
theorem dX4_endRule_8 : decode cX4_endRule 8 = .ok (.iadd, 1) := by decide +kernel
theorem dX4_endRule_9 : decode cX4_endRule 9 = .ok (.invokestatic 51, 3) := by decide +kernel
theorem dX4_endRule_12 : decode cX4_endRule 12 = .ok (.putfield 31, 3) := by decide +kernel
theorem dX4_endRule_15 : decode cX4_endRule 15 = .ok (.return_, 1) := by decide +kernel
theorem dX4_add_0 : decode cX4_add 0 = .ok (.aload_n 0, 1) := by decide +kernel
theorem dX4_add_1 : decode cX4_add 1 = .ok (.getfield 18, 3) := by decide +kernel
theorem dX4_add_4 : decode cX4_add 4 = .ok (.sipush 256, 3) := by decide +kernel
theorem dX4_add_7 : decode cX4_add 7 = .ok (.if_icmp .ge 33, 3) := by decide +kernel
theorem dX4_add_10 : decode cX4_add 10 = .ok (.aload_n 0, 1) := by decide +kernel
theorem dX4_add_11 : decode cX4_add 11 = .ok (.getfield 11, 3) := by decide +kernel
theorem dX4_add_14 : decode cX4_add 14 = .ok (.aload_n 0, 1) := by decide +kernel
theorem dX4_add_15 : decode cX4_add 15 = .ok (.getfield 18, 3) := by decide +kernel
theorem dX4_add_18 : decode cX4_add 18 = .ok (.iload_n 1, 1) := by decide +kernel
theorem dX4_add_19 : decode cX4_add 19 = .ok (.iastore, 1) := by decide +kernel
theorem dX4_add_20 : decode cX4_add 20 = .ok (.aload_n 0, 1) := by decide +kernel
theorem dX4_add_21 : decode cX4_add 21 = .ok (.getfield 15, 3) := by decide +kernel
theorem dX4_add_24 : decode cX4_add 24 = .ok (.aload_n 0, 1) := by decide +kernel
theorem dX4_add_25 : decode cX4_add 25 = .ok (.getfield 18, 3) := by decide +kernel
theorem dX4_add_28 : decode cX4_add 28 = .ok (.iload_n 2, 1) := by decide +kernel
theorem dX4_add_29 : decode cX4_add 29 = .ok (.iastore, 1) := by decide +kernel
theorem dX4_add_30 : decode cX4_add 30 = .ok (.aload_n 0, 1) := by decide +kernel
theorem dX4_add_31 : decode cX4_add 31 = .ok (.dup, 1) := by decide +kernel
theorem dX4_add_32 : decode cX4_add 32 = .ok (.getfield 18, 3) := by decide +kernel
theorem dX4_add_35 : decode cX4_add 35 = .ok (.iconst 1, 1) := by decide +kernel
theorem dX4_add_36 : decode cX4_add 36 = .ok (.iadd, 1) := by decide +kernel
theorem dX4_add_37 : decode cX4_add 37 = .ok (.putfield 18, 3) := by decide +kernel
theorem dX4_add_40 : decode cX4_add 40 = .ok (.aload_n 0, 1) := by decide +kernel
theorem dX4_add_41 : decode cX4_add 41 = .ok (.getfield 18, 3) := by decide +kernel
theorem dX4_add_44 : decode cX4_add 44 = .ok (.iconst 1, 1) := by decide +kernel
theorem dX4_add_45 : decode cX4_add 45 = .ok (.isub, 1) := by decide +kernel
theorem dX4_add_46 : decode cX4_add 46 = .ok (.ireturn, 1) := by decide +kernel
theorem dX4_leadHere_0 : decode cX4_leadHere 0 = .ok (.iload_n 1, 1) := by decide +kernel
theorem dX4_leadHere_1 : decode cX4_leadHere 1 = .ok (.ifCond .lt 20, 3) := by decide +kernel
theorem dX4_leadHere_4 : decode cX4_leadHere 4 = .ok (.iload_n 1, 1) := by decide +kernel
theorem dX4_leadHere_5 : decode cX4_leadHere 5 = .ok (.sipush 256, 3) := by decide +kernel
theorem dX4_leadHere_8 : decode cX4_leadHere 8 = .ok (.if_icmp .ge 13, 3) := by decide +kernel
theorem dX4_leadHere_11 : decode cX4_leadHere 11 = .ok (.aload_n 0, 1) := by decide +kernel
theorem dX4_leadHere_12 : decode cX4_leadHere 12 = .ok (.getfield 15, 3) := by decide +kernel
theorem dX4_leadHere_15 : decode cX4_leadHere 15 = .ok (.iload_n 1, 1) := by decide +kernel
theorem dX4_leadHere_16 : decode cX4_leadHere 16 = .ok (.aload_n 0, 1) := by decide +kernel
theorem dX4_leadHere_17 : decode cX4_leadHere 17 = .ok (.getfield 18, 3) := by decide +kernel
theorem dX4_leadHere_20 : decode cX4_leadHere 20 = .ok (.iastore, 1) := by decide +kernel
theorem dX4_leadHere_21 : decode cX4_leadHere 21 = .ok (.return_, 1) := by decide +kernel
theorem dX4_meanPerson_0 : decode cX4_meanPerson 0 = .ok (.aload_n 0, 1) := by decide +kernel
theorem dX4_meanPerson_1 : decode cX4_meanPerson 1 = .ok (.getfield 42, 3) := by decide +kernel
theorem dX4_meanPerson_4 : decode cX4_meanPerson 4 = .ok (.iconst 0, 1) := by decide +kernel
theorem dX4_meanPerson_5 : decode cX4_meanPerson 5 = .ok (.iload_n 1, 1) := by decide +kernel
theorem dX4_meanPerson_6 : decode cX4_meanPerson 6 = .ok (.iastore, 1) := by decide +kernel
theorem dX4_meanPerson_7 : decode cX4_meanPerson 7 = .ok (.aload_n 0, 1) := by decide +kernel
theorem dX4_meanPerson_8 : decode cX4_meanPerson 8 = .ok (.getfield 42, 3) := by decide +kernel
theorem dX4_meanPerson_11 : decode cX4_meanPerson 11 = .ok (.iconst 4, 1) := by decide +kernel
theorem dX4_meanPerson_12 : decode cX4_meanPerson 12 = .ok (.iload_n 2, 1) := by decide +kernel
theorem dX4_meanPerson_13 : decode cX4_meanPerson 13 = .ok (.iastore, 1) := by decide +kernel
theorem dX4_meanPerson_14 : decode cX4_meanPerson 14 = .ok (.aload_n 0, 1) := by decide +kernel
theorem dX4_meanPerson_15 : decode cX4_meanPerson 15 = .ok (.getfield 42, 3) := by decide +kernel
theorem dX4_meanPerson_18 : decode cX4_meanPerson 18 = .ok (.bipush 6, 2) := by decide +kernel
theorem dX4_meanPerson_20 : decode cX4_meanPerson 20 = .ok (.iload_n 3, 1) := by decide +kernel
theorem dX4_meanPerson_21 : decode cX4_meanPerson 21 = .ok (.iastore, 1) := by decide +kernel
theorem dX4_meanPerson_22 : decode cX4_meanPerson 22 = .ok (.return_, 1) := by decide +kernel
theorem dX4_meanOther_0 : decode cX4_meanOther 0 = .ok (.aload_n 0, 1) := by decide +kernel
theorem dX4_meanOther_1 : decode cX4_meanOther 1 = .ok (.getfield 42, 3) := by decide +kernel
theorem dX4_meanOther_4 : decode cX4_meanOther 4 = .ok (.iconst 1, 1) := by decide +kernel
theorem dX4_meanOther_5 : decode cX4_meanOther 5 = .ok (.iload_n 1, 1) := by decide +kernel
theorem dX4_meanOther_6 : decode cX4_meanOther 6 = .ok (.iastore, 1) := by decide +kernel
theorem dX4_meanOther_7 : decode cX4_meanOther 7 = .ok (.aload_n 0, 1) := by decide +kernel
theorem dX4_meanOther_8 : decode cX4_meanOther 8 = .ok (.getfield 42, 3) := by decide +kernel
theorem dX4_meanOther_11 : decode cX4_meanOther 11 = .ok (.iconst 2, 1) := by decide +kernel
theorem dX4_meanOther_12 : decode cX4_meanOther 12 = .ok (.iload_n 2, 1) := by decide +kernel
theorem dX4_meanOther_13 : decode cX4_meanOther 13 = .ok (.iastore, 1) := by decide +kernel
theorem dX4_meanOther_14 : decode cX4_meanOther 14 = .ok (.aload_n 0, 1) := by decide +kernel
theorem dX4_meanOther_15 : decode cX4_meanOther 15 = .ok (.getfield 42, 3) := by decide +kernel
theorem dX4_meanOther_18 : decode cX4_meanOther 18 = .ok (.iconst 3, 1) := by decide +kernel
theorem dX4_meanOther_19 : decode cX4_meanOther 19 = .ok (.iload_n 3, 1) := by decide +kernel
theorem dX4_meanOther_20 : decode cX4_meanOther 20 = .ok (.iastore, 1) := by decide +kernel
theorem dX4_meanOther_21 : decode cX4_meanOther 21 = .ok (.return_, 1) := by decide +kernel
theorem dX4_meanDoor_0 : decode cX4_meanDoor 0 = .ok (.aload_n 0, 1) := by decide +kernel
theorem dX4_meanDoor_1 : decode cX4_meanDoor 1 = .ok (.getfield 42, 3) := by decide +kernel
theorem dX4_meanDoor_4 : decode cX4_meanDoor 4 = .ok (.iconst 5, 1) := by decide +kernel
theorem dX4_meanDoor_5 : decode cX4_meanDoor 5 = .ok (.iload_n 1, 1) := by decide +kernel
theorem dX4_meanDoor_6 : decode cX4_meanDoor 6 = .ok (.iastore, 1) := by decide +kernel
theorem dX4_meanDoor_7 : decode cX4_meanDoor 7 = .ok (.aload_n 0, 1) := by decide +kernel
theorem dX4_meanDoor_8 : decode cX4_meanDoor 8 = .ok (.getfield 42, 3) := by decide +kernel
theorem dX4_meanDoor_11 : decode cX4_meanDoor 11 = .ok (.bipush 7, 2) := by decide +kernel
theorem dX4_meanDoor_13 : decode cX4_meanDoor 13 = .ok (.iload_n 2, 1) := by decide +kernel
theorem dX4_meanDoor_14 : decode cX4_meanDoor 14 = .ok (.iastore, 1) := by decide +kernel
theorem dX4_meanDoor_15 : decode cX4_meanDoor 15 = .ok (.return_, 1) := by decide +kernel
theorem dX4_meanTime_0 : decode cX4_meanTime 0 = .ok (.aload_n 0, 1) := by decide +kernel
theorem dX4_meanTime_1 : decode cX4_meanTime 1 = .ok (.getfield 42, 3) := by decide +kernel
theorem dX4_meanTime_4 : decode cX4_meanTime 4 = .ok (.bipush 8, 2) := by decide +kernel
theorem dX4_meanTime_6 : decode cX4_meanTime 6 = .ok (.iload_n 1, 1) := by decide +kernel
theorem dX4_meanTime_7 : decode cX4_meanTime 7 = .ok (.iastore, 1) := by decide +kernel
theorem dX4_meanTime_8 : decode cX4_meanTime 8 = .ok (.aload_n 0, 1) := by decide +kernel
theorem dX4_meanTime_9 : decode cX4_meanTime 9 = .ok (.getfield 42, 3) := by decide +kernel
theorem dX4_meanTime_12 : decode cX4_meanTime 12 = .ok (.bipush 9, 2) := by decide +kernel
theorem dX4_meanTime_14 : decode cX4_meanTime 14 = .ok (.iload_n 2, 1) := by decide +kernel
theorem dX4_meanTime_15 : decode cX4_meanTime 15 = .ok (.iastore, 1) := by decide +kernel
theorem dX4_meanTime_16 : decode cX4_meanTime 16 = .ok (.return_, 1) := by decide +kernel
theorem dX4_anyHolds_0 : decode cX4_anyHolds 0 = .ok (.iconst 0, 1) := by decide +kernel
theorem dX4_anyHolds_1 : decode cX4_anyHolds 1 = .ok (.istore_n 2, 1) := by decide +kernel
theorem dX4_anyHolds_2 : decode cX4_anyHolds 2 = .ok (.iload_n 2, 1) := by decide +kernel
theorem dX4_anyHolds_3 : decode cX4_anyHolds 3 = .ok (.aload_n 0, 1) := by decide +kernel
theorem dX4_anyHolds_4 : decode cX4_anyHolds 4 = .ok (.getfield 31, 3) := by decide +kernel
theorem dX4_anyHolds_7 : decode cX4_anyHolds 7 = .ok (.if_icmp .ge 40, 3) := by decide +kernel
theorem dX4_anyHolds_10 : decode cX4_anyHolds 10 = .ok (.iload_n 2, 1) := by decide +kernel
theorem dX4_anyHolds_11 : decode cX4_anyHolds 11 = .ok (.bipush 16, 2) := by decide +kernel
theorem dX4_anyHolds_13 : decode cX4_anyHolds 13 = .ok (.if_icmp .ge 34, 3) := by decide +kernel
theorem dX4_anyHolds_16 : decode cX4_anyHolds 16 = .ok (.aload_n 0, 1) := by decide +kernel
theorem dX4_anyHolds_17 : decode cX4_anyHolds 17 = .ok (.getfield 22, 3) := by decide +kernel
theorem dX4_anyHolds_20 : decode cX4_anyHolds 20 = .ok (.iload_n 2, 1) := by decide +kernel
theorem dX4_anyHolds_21 : decode cX4_anyHolds 21 = .ok (.iaload, 1) := by decide +kernel
theorem dX4_anyHolds_22 : decode cX4_anyHolds 22 = .ok (.iload_n 1, 1) := by decide +kernel
theorem dX4_anyHolds_23 : decode cX4_anyHolds 23 = .ok (.if_icmp .ne 18, 3) := by decide +kernel
theorem dX4_anyHolds_26 : decode cX4_anyHolds 26 = .ok (.aload_n 0, 1) := by decide +kernel
theorem dX4_anyHolds_27 : decode cX4_anyHolds 27 = .ok (.aload_n 0, 1) := by decide +kernel
theorem dX4_anyHolds_28 : decode cX4_anyHolds 28 = .ok (.getfield 28, 3) := by decide +kernel
theorem dX4_anyHolds_31 : decode cX4_anyHolds 31 = .ok (.iload_n 2, 1) := by decide +kernel
theorem dX4_anyHolds_32 : decode cX4_anyHolds 32 = .ok (.iaload, 1) := by decide +kernel
theorem dX4_anyHolds_33 : decode cX4_anyHolds 33 = .ok (.invokevirtual 57, 3) := by decide +kernel
theorem dX4_anyHolds_36 : decode cX4_anyHolds 36 = .ok (.ifCond .eq 5, 3) := by decide +kernel
theorem dX4_anyHolds_39 : decode cX4_anyHolds 39 = .ok (.iconst 1, 1) := by decide +kernel
theorem dX4_anyHolds_40 : decode cX4_anyHolds 40 = .ok (.ireturn, 1) := by decide +kernel
theorem dX4_anyHolds_41 : decode cX4_anyHolds 41 = .ok (.iinc 2 1, 3) := by decide +kernel
theorem dX4_anyHolds_44 : decode cX4_anyHolds 44 = .ok (.goto (-42), 3) := by decide +kernel
theorem dX4_anyHolds_47 : decode cX4_anyHolds 47 = .ok (.iconst 0, 1) := by decide +kernel
theorem dX4_anyHolds_48 : decode cX4_anyHolds 48 = .ok (.ireturn, 1) := by decide +kernel
theorem dX4_worth_0 : decode cX4_worth 0 = .ok (.iconst 0, 1) := by decide +kernel
theorem dX4_worth_1 : decode cX4_worth 1 = .ok (.istore_n 3, 1) := by decide +kernel
theorem dX4_worth_2 : decode cX4_worth 2 = .ok (.iload_n 3, 1) := by decide +kernel
theorem dX4_worth_3 : decode cX4_worth 3 = .ok (.aload_n 0, 1) := by decide +kernel
theorem dX4_worth_4 : decode cX4_worth 4 = .ok (.getfield 31, 3) := by decide +kernel
theorem dX4_worth_7 : decode cX4_worth 7 = .ok (.if_icmp .ge 54, 3) := by decide +kernel
theorem dX4_worth_10 : decode cX4_worth 10 = .ok (.iload_n 3, 1) := by decide +kernel
theorem dX4_worth_11 : decode cX4_worth 11 = .ok (.bipush 16, 2) := by decide +kernel
theorem dX4_worth_13 : decode cX4_worth 13 = .ok (.if_icmp .ge 48, 3) := by decide +kernel
theorem dX4_worth_16 : decode cX4_worth 16 = .ok (.aload_n 0, 1) := by decide +kernel
theorem dX4_worth_17 : decode cX4_worth 17 = .ok (.getfield 22, 3) := by decide +kernel
theorem dX4_worth_20 : decode cX4_worth 20 = .ok (.iload_n 3, 1) := by decide +kernel
theorem dX4_worth_21 : decode cX4_worth 21 = .ok (.iaload, 1) := by decide +kernel
theorem dX4_worth_22 : decode cX4_worth 22 = .ok (.iload_n 1, 1) := by decide +kernel
theorem dX4_worth_23 : decode cX4_worth 23 = .ok (.if_icmp .ne 32, 3) := by decide +kernel
theorem dX4_worth_26 : decode cX4_worth 26 = .ok (.aload_n 0, 1) := by decide +kernel
theorem dX4_worth_27 : decode cX4_worth 27 = .ok (.aload_n 0, 1) := by decide +kernel
theorem dX4_worth_28 : decode cX4_worth 28 = .ok (.getfield 28, 3) := by decide +kernel
theorem dX4_worth_31 : decode cX4_worth 31 = .ok (.iload_n 3, 1) := by decide +kernel
theorem dX4_worth_32 : decode cX4_worth 32 = .ok (.iaload, 1) := by decide +kernel
theorem dX4_worth_33 : decode cX4_worth 33 = .ok (.invokevirtual 57, 3) := by decide +kernel
theorem dX4_worth_36 : decode cX4_worth 36 = .ok (.ifCond .eq 19, 3) := by decide +kernel
theorem dX4_worth_39 : decode cX4_worth 39 = .ok (.aload_n 0, 1) := by decide +kernel
theorem dX4_worth_40 : decode cX4_worth 40 = .ok (.aload_n 0, 1) := by decide +kernel
theorem dX4_worth_41 : decode cX4_worth 41 = .ok (.getfield 25, 3) := by decide +kernel
theorem dX4_worth_44 : decode cX4_worth 44 = .ok (.iload_n 3, 1) := by decide +kernel
theorem dX4_worth_45 : decode cX4_worth 45 = .ok (.iaload, 1) := by decide +kernel
theorem dX4_worth_46 : decode cX4_worth 46 = .ok (.invokevirtual 57, 3) := by decide +kernel
theorem dX4_worth_49 : decode cX4_worth 49 = .ok (.iconst 0, 1) := by decide +kernel
theorem dX4_worth_50 : decode cX4_worth 50 = .ok (.iload_n 2, 1) := by decide +kernel
theorem dX4_worth_51 : decode cX4_worth 51 = .ok (.invokestatic 61, 3) := by decide +kernel
theorem dX4_worth_54 : decode cX4_worth 54 = .ok (.ireturn, 1) := by decide +kernel
theorem dX4_worth_55 : decode cX4_worth 55 = .ok (.iinc 3 1, 3) := by decide +kernel
theorem dX4_worth_58 : decode cX4_worth 58 = .ok (.goto (-56), 3) := by decide +kernel
theorem dX4_worth_61 : decode cX4_worth 61 = .ok (.iconst 0, 1) := by decide +kernel
theorem dX4_worth_62 : decode cX4_worth 62 = .ok (.ireturn, 1) := by decide +kernel
theorem dX4_reckon_0 : decode cX4_reckon 0 = .ok (.aload_n 0, 1) := by decide +kernel
theorem dX4_reckon_1 : decode cX4_reckon 1 = .ok (.iconst 0, 1) := by decide +kernel
theorem dX4_reckon_2 : decode cX4_reckon 2 = .ok (.putfield 48, 3) := by decide +kernel
theorem dX4_reckon_5 : decode cX4_reckon 5 = .ok (.iconst 0, 1) := by decide +kernel
theorem dX4_reckon_6 : decode cX4_reckon 6 = .ok (.iload_n 1, 1) := by decide +kernel
theorem dX4_reckon_7 : decode cX4_reckon 7 = .ok (.invokestatic 65, 3) := by decide +kernel
theorem dX4_reckon_10 : decode cX4_reckon 10 = .ok (.istore_n 2, 1) := by decide +kernel
theorem dX4_reckon_11 : decode cX4_reckon 11 = .ok (.iload_n 2, 1) := by decide +kernel
theorem dX4_reckon_12 : decode cX4_reckon 12 = .ok (.aload_n 0, 1) := by decide +kernel
theorem dX4_reckon_13 : decode cX4_reckon 13 = .ok (.getfield 18, 3) := by decide +kernel
theorem dX4_reckon_16 : decode cX4_reckon 16 = .ok (.if_icmp .ge 208, 3) := by decide +kernel
theorem dX4_reckon_19 : decode cX4_reckon 19 = .ok (.iload_n 2, 1) := by decide +kernel
theorem dX4_reckon_20 : decode cX4_reckon 20 = .ok (.sipush 256, 3) := by decide +kernel
theorem dX4_reckon_23 : decode cX4_reckon 23 = .ok (.if_icmp .ge 201, 3) := by decide +kernel
theorem dX4_reckon_26 : decode cX4_reckon 26 = .ok (.aload_n 0, 1) := by decide +kernel
theorem dX4_reckon_27 : decode cX4_reckon 27 = .ok (.getfield 11, 3) := by decide +kernel
theorem dX4_reckon_30 : decode cX4_reckon 30 = .ok (.iload_n 2, 1) := by decide +kernel
theorem dX4_reckon_31 : decode cX4_reckon 31 = .ok (.iaload, 1) := by decide +kernel
theorem dX4_reckon_32 : decode cX4_reckon 32 = .ok (.bipush 46, 2) := by decide +kernel
theorem dX4_reckon_34 : decode cX4_reckon 34 = .ok (.if_icmp .eq 190, 3) := by decide +kernel
theorem dX4_reckon_37 : decode cX4_reckon 37 = .ok (.aload_n 0, 1) := by decide +kernel
theorem dX4_reckon_38 : decode cX4_reckon 38 = .ok (.getfield 11, 3) := by decide +kernel
theorem dX4_reckon_41 : decode cX4_reckon 41 = .ok (.iload_n 2, 1) := by decide +kernel
theorem dX4_reckon_42 : decode cX4_reckon 42 = .ok (.iaload, 1) := by decide +kernel
theorem dX4_reckon_43 : decode cX4_reckon 43 = .ok (.istore_n 3, 1) := by decide +kernel
theorem dX4_reckon_44 : decode cX4_reckon 44 = .ok (.iload_n 3, 1) := by decide +kernel
theorem dX4_reckon_45 : decode cX4_reckon 45 = .ok (.bipush 35, 2) := by decide +kernel
theorem dX4_reckon_47 : decode cX4_reckon 47 = .ok (.if_icmp .ne 16, 3) := by decide +kernel
theorem dX4_reckon_50 : decode cX4_reckon 50 = .ok (.aload_n 0, 1) := by decide +kernel
theorem dX4_reckon_51 : decode cX4_reckon 51 = .ok (.aload_n 0, 1) := by decide +kernel
theorem dX4_reckon_52 : decode cX4_reckon 52 = .ok (.getfield 15, 3) := by decide +kernel
theorem dX4_reckon_55 : decode cX4_reckon 55 = .ok (.iload_n 2, 1) := by decide +kernel
theorem dX4_reckon_56 : decode cX4_reckon 56 = .ok (.iaload, 1) := by decide +kernel
theorem dX4_reckon_57 : decode cX4_reckon 57 = .ok (.invokevirtual 68, 3) := by decide +kernel
theorem dX4_reckon_60 : decode cX4_reckon 60 = .ok (.goto 158, 3) := by decide +kernel
theorem dX4_reckon_63 : decode cX4_reckon 63 = .ok (.iload_n 3, 1) := by decide +kernel
theorem dX4_reckon_64 : decode cX4_reckon 64 = .ok (.bipush 64, 2) := by decide +kernel
theorem dX4_reckon_66 : decode cX4_reckon 66 = .ok (.if_icmp .ne 20, 3) := by decide +kernel
theorem dX4_reckon_69 : decode cX4_reckon 69 = .ok (.aload_n 0, 1) := by decide +kernel
theorem dX4_reckon_70 : decode cX4_reckon 70 = .ok (.aload_n 0, 1) := by decide +kernel
theorem dX4_reckon_71 : decode cX4_reckon 71 = .ok (.aload_n 0, 1) := by decide +kernel
theorem dX4_reckon_72 : decode cX4_reckon 72 = .ok (.getfield 15, 3) := by decide +kernel
theorem dX4_reckon_75 : decode cX4_reckon 75 = .ok (.iload_n 2, 1) := by decide +kernel
theorem dX4_reckon_76 : decode cX4_reckon 76 = .ok (.iaload, 1) := by decide +kernel
theorem dX4_reckon_77 : decode cX4_reckon 77 = .ok (.invokevirtual 72, 3) := by decide +kernel
theorem dX4_reckon_80 : decode cX4_reckon 80 = .ok (.invokevirtual 68, 3) := by decide +kernel
theorem dX4_reckon_83 : decode cX4_reckon 83 = .ok (.goto 135, 3) := by decide +kernel
theorem dX4_reckon_86 : decode cX4_reckon 86 = .ok (.iload_n 3, 1) := by decide +kernel
theorem dX4_reckon_87 : decode cX4_reckon 87 = .ok (.bipush 33, 2) := by decide +kernel
theorem dX4_reckon_89 : decode cX4_reckon 89 = .ok (.if_icmp .ne 22, 3) := by decide +kernel
theorem dX4_reckon_92 : decode cX4_reckon 92 = .ok (.aload_n 0, 1) := by decide +kernel
theorem dX4_reckon_93 : decode cX4_reckon 93 = .ok (.aload_n 0, 1) := by decide +kernel
theorem dX4_reckon_94 : decode cX4_reckon 94 = .ok (.invokevirtual 75, 3) := by decide +kernel
theorem dX4_reckon_97 : decode cX4_reckon 97 = .ok (.ifCond .ne 7, 3) := by decide +kernel
theorem dX4_reckon_100 : decode cX4_reckon 100 = .ok (.iconst 1, 1) := by decide +kernel
theorem dX4_reckon_101 : decode cX4_reckon 101 = .ok (.goto 4, 3) := by decide +kernel
theorem dX4_reckon_104 : decode cX4_reckon 104 = .ok (.iconst 0, 1) := by decide +kernel
theorem dX4_reckon_105 : decode cX4_reckon 105 = .ok (.invokevirtual 68, 3) := by decide +kernel
theorem dX4_reckon_108 : decode cX4_reckon 108 = .ok (.goto 110, 3) := by decide +kernel
theorem dX4_reckon_111 : decode cX4_reckon 111 = .ok (.iload_n 3, 1) := by decide +kernel
theorem dX4_reckon_112 : decode cX4_reckon 112 = .ok (.bipush 38, 2) := by decide +kernel
theorem dX4_reckon_114 : decode cX4_reckon 114 = .ok (.if_icmp .eq 9, 3) := by decide +kernel
theorem dX4_reckon_117 : decode cX4_reckon 117 = .ok (.iload_n 3, 1) := by decide +kernel
theorem dX4_reckon_118 : decode cX4_reckon 118 = .ok (.bipush 124, 2) := by decide +kernel
theorem dX4_reckon_120 : decode cX4_reckon 120 = .ok (.if_icmp .ne 55, 3) := by decide +kernel
theorem dX4_reckon_123 : decode cX4_reckon 123 = .ok (.aload_n 0, 1) := by decide +kernel
theorem dX4_reckon_124 : decode cX4_reckon 124 = .ok (.invokevirtual 75, 3) := by decide +kernel
theorem dX4_reckon_127 : decode cX4_reckon 127 = .ok (.istore 4, 2) := by decide +kernel
theorem dX4_reckon_129 : decode cX4_reckon 129 = .ok (.iload 4, 2) := by decide +kernel
theorem dX4_reckon_131 : decode cX4_reckon 131 = .ok (.ifCond .eq 7, 3) := by decide +kernel
theorem dX4_reckon_134 : decode cX4_reckon 134 = .ok (.iconst 1, 1) := by decide +kernel
theorem dX4_reckon_135 : decode cX4_reckon 135 = .ok (.goto 4, 3) := by decide +kernel
theorem dX4_reckon_138 : decode cX4_reckon 138 = .ok (.iconst 0, 1) := by decide +kernel
theorem dX4_reckon_139 : decode cX4_reckon 139 = .ok (.iload_n 3, 1) := by decide +kernel
theorem dX4_reckon_140 : decode cX4_reckon 140 = .ok (.bipush 124, 2) := by decide +kernel
theorem dX4_reckon_142 : decode cX4_reckon 142 = .ok (.if_icmp .ne 7, 3) := by decide +kernel
theorem dX4_reckon_145 : decode cX4_reckon 145 = .ok (.iconst 1, 1) := by decide +kernel
theorem dX4_reckon_146 : decode cX4_reckon 146 = .ok (.goto 4, 3) := by decide +kernel
theorem dX4_reckon_149 : decode cX4_reckon 149 = .ok (.iconst 0, 1) := by decide +kernel
theorem dX4_reckon_150 : decode cX4_reckon 150 = .ok (.if_icmp .ne 22, 3) := by decide +kernel
theorem dX4_reckon_153 : decode cX4_reckon 153 = .ok (.aload_n 0, 1) := by decide +kernel
theorem dX4_reckon_154 : decode cX4_reckon 154 = .ok (.iload 4, 2) := by decide +kernel
theorem dX4_reckon_156 : decode cX4_reckon 156 = .ok (.invokevirtual 68, 3) := by decide +kernel
theorem dX4_reckon_159 : decode cX4_reckon 159 = .ok (.iload_n 2, 1) := by decide +kernel
theorem dX4_reckon_160 : decode cX4_reckon 160 = .ok (.aload_n 0, 1) := by decide +kernel
theorem dX4_reckon_161 : decode cX4_reckon 161 = .ok (.getfield 15, 3) := by decide +kernel
theorem dX4_reckon_164 : decode cX4_reckon 164 = .ok (.iload_n 2, 1) := by decide +kernel
theorem dX4_reckon_165 : decode cX4_reckon 165 = .ok (.iaload, 1) := by decide +kernel
theorem dX4_reckon_166 : decode cX4_reckon 166 = .ok (.iconst 1, 1) := by decide +kernel
theorem dX4_reckon_167 : decode cX4_reckon 167 = .ok (.isub, 1) := by decide +kernel
theorem dX4_reckon_168 : decode cX4_reckon 168 = .ok (.invokestatic 65, 3) := by decide +kernel
theorem dX4_reckon_171 : decode cX4_reckon 171 = .ok (.istore_n 2, 1) := by decide +kernel
theorem dX4_reckon_172 : decode cX4_reckon 172 = .ok (.goto 46, 3) := by decide +kernel
theorem dX4_reckon_175 : decode cX4_reckon 175 = .ok (.aload_n 0, 1) := by decide +kernel
theorem dX4_reckon_176 : decode cX4_reckon 176 = .ok (.invokevirtual 75, 3) := by decide +kernel
theorem dX4_reckon_179 : decode cX4_reckon 179 = .ok (.istore 4, 2) := by decide +kernel
theorem dX4_reckon_181 : decode cX4_reckon 181 = .ok (.aload_n 0, 1) := by decide +kernel
theorem dX4_reckon_182 : decode cX4_reckon 182 = .ok (.invokevirtual 75, 3) := by decide +kernel
theorem dX4_reckon_185 : decode cX4_reckon 185 = .ok (.istore 5, 2) := by decide +kernel
theorem dX4_reckon_187 : decode cX4_reckon 187 = .ok (.iload 4, 2) := by decide +kernel
theorem dX4_reckon_189 : decode cX4_reckon 189 = .ok (.ifCond .ne 17, 3) := by decide +kernel
theorem dX4_reckon_192 : decode cX4_reckon 192 = .ok (.iload_n 3, 1) := by decide +kernel
theorem dX4_reckon_193 : decode cX4_reckon 193 = .ok (.bipush 47, 2) := by decide +kernel
theorem dX4_reckon_195 : decode cX4_reckon 195 = .ok (.if_icmp .eq 9, 3) := by decide +kernel
theorem dX4_reckon_198 : decode cX4_reckon 198 = .ok (.iload_n 3, 1) := by decide +kernel
theorem dX4_reckon_199 : decode cX4_reckon 199 = .ok (.bipush 37, 2) := by decide +kernel
theorem dX4_reckon_201 : decode cX4_reckon 201 = .ok (.if_icmp .ne 5, 3) := by decide +kernel
theorem dX4_reckon_204 : decode cX4_reckon 204 = .ok (.iconst 0, 1) := by decide +kernel
theorem dX4_reckon_205 : decode cX4_reckon 205 = .ok (.ireturn, 1) := by decide +kernel
theorem dX4_reckon_206 : decode cX4_reckon 206 = .ok (.aload_n 0, 1) := by decide +kernel
theorem dX4_reckon_207 : decode cX4_reckon 207 = .ok (.iload 5, 2) := by decide +kernel
theorem dX4_reckon_209 : decode cX4_reckon 209 = .ok (.iload_n 3, 1) := by decide +kernel
theorem dX4_reckon_210 : decode cX4_reckon 210 = .ok (.iload 4, 2) := by decide +kernel
theorem dX4_reckon_212 : decode cX4_reckon 212 = .ok (.invokestatic 78, 3) := by decide +kernel
theorem dX4_reckon_215 : decode cX4_reckon 215 = .ok (.invokevirtual 68, 3) := by decide +kernel
theorem dX4_reckon_218 : decode cX4_reckon 218 = .ok (.iinc 2 1, 3) := by decide +kernel
theorem dX4_reckon_221 : decode cX4_reckon 221 = .ok (.goto (-210), 3) := by decide +kernel
theorem dX4_reckon_224 : decode cX4_reckon 224 = .ok (.aload_n 0, 1) := by decide +kernel
theorem dX4_reckon_225 : decode cX4_reckon 225 = .ok (.invokevirtual 75, 3) := by decide +kernel
theorem dX4_reckon_228 : decode cX4_reckon 228 = .ok (.ireturn, 1) := by decide +kernel
theorem dX4_joined_0 : decode cX4_joined 0 = .ok (.iload_n 1, 1) := by decide +kernel
theorem dX4_joined_1 : decode cX4_joined 1 = .ok (.lookupswitch 125 #[(37, 91), (42, 75), (43, 67), (45, 71), (47, 79), (60, 103), (62, 114)], 67) := by decide +kernel
theorem dX4_joined_68 : decode cX4_joined 68 = .ok (.iload_n 0, 1) := by decide +kernel
theorem dX4_joined_69 : decode cX4_joined 69 = .ok (.iload_n 2, 1) := by decide +kernel
theorem dX4_joined_70 : decode cX4_joined 70 = .ok (.iadd, 1) := by decide +kernel
theorem dX4_joined_71 : decode cX4_joined 71 = .ok (.ireturn, 1) := by decide +kernel
theorem dX4_joined_72 : decode cX4_joined 72 = .ok (.iload_n 0, 1) := by decide +kernel
theorem dX4_joined_73 : decode cX4_joined 73 = .ok (.iload_n 2, 1) := by decide +kernel
theorem dX4_joined_74 : decode cX4_joined 74 = .ok (.isub, 1) := by decide +kernel
theorem dX4_joined_75 : decode cX4_joined 75 = .ok (.ireturn, 1) := by decide +kernel
theorem dX4_joined_76 : decode cX4_joined 76 = .ok (.iload_n 0, 1) := by decide +kernel
theorem dX4_joined_77 : decode cX4_joined 77 = .ok (.iload_n 2, 1) := by decide +kernel
theorem dX4_joined_78 : decode cX4_joined 78 = .ok (.imul, 1) := by decide +kernel
theorem dX4_joined_79 : decode cX4_joined 79 = .ok (.ireturn, 1) := by decide +kernel
theorem dX4_joined_80 : decode cX4_joined 80 = .ok (.iload_n 2, 1) := by decide +kernel
theorem dX4_joined_81 : decode cX4_joined 81 = .ok (.ifCond .ne 7, 3) := by decide +kernel
theorem dX4_joined_84 : decode cX4_joined 84 = .ok (.iconst 0, 1) := by decide +kernel
theorem dX4_joined_85 : decode cX4_joined 85 = .ok (.goto 6, 3) := by decide +kernel
theorem dX4_joined_88 : decode cX4_joined 88 = .ok (.iload_n 0, 1) := by decide +kernel
theorem dX4_joined_89 : decode cX4_joined 89 = .ok (.iload_n 2, 1) := by decide +kernel
theorem dX4_joined_90 : decode cX4_joined 90 = .ok (.idiv, 1) := by decide +kernel
theorem dX4_joined_91 : decode cX4_joined 91 = .ok (.ireturn, 1) := by decide +kernel
theorem dX4_joined_92 : decode cX4_joined 92 = .ok (.iload_n 2, 1) := by decide +kernel
theorem dX4_joined_93 : decode cX4_joined 93 = .ok (.ifCond .ne 7, 3) := by decide +kernel
theorem dX4_joined_96 : decode cX4_joined 96 = .ok (.iconst 0, 1) := by decide +kernel
theorem dX4_joined_97 : decode cX4_joined 97 = .ok (.goto 6, 3) := by decide +kernel
theorem dX4_joined_100 : decode cX4_joined 100 = .ok (.iload_n 0, 1) := by decide +kernel
theorem dX4_joined_101 : decode cX4_joined 101 = .ok (.iload_n 2, 1) := by decide +kernel
theorem dX4_joined_102 : decode cX4_joined 102 = .ok (.irem, 1) := by decide +kernel
theorem dX4_joined_103 : decode cX4_joined 103 = .ok (.ireturn, 1) := by decide +kernel
theorem dX4_joined_104 : decode cX4_joined 104 = .ok (.iload_n 0, 1) := by decide +kernel
theorem dX4_joined_105 : decode cX4_joined 105 = .ok (.iload_n 2, 1) := by decide +kernel
theorem dX4_joined_106 : decode cX4_joined 106 = .ok (.if_icmp .ge 7, 3) := by decide +kernel
theorem dX4_joined_109 : decode cX4_joined 109 = .ok (.iconst 1, 1) := by decide +kernel
theorem dX4_joined_110 : decode cX4_joined 110 = .ok (.goto 4, 3) := by decide +kernel
theorem dX4_joined_113 : decode cX4_joined 113 = .ok (.iconst 0, 1) := by decide +kernel
theorem dX4_joined_114 : decode cX4_joined 114 = .ok (.ireturn, 1) := by decide +kernel
theorem dX4_joined_115 : decode cX4_joined 115 = .ok (.iload_n 0, 1) := by decide +kernel
theorem dX4_joined_116 : decode cX4_joined 116 = .ok (.iload_n 2, 1) := by decide +kernel
theorem dX4_joined_117 : decode cX4_joined 117 = .ok (.if_icmp .le 7, 3) := by decide +kernel
theorem dX4_joined_120 : decode cX4_joined 120 = .ok (.iconst 1, 1) := by decide +kernel
theorem dX4_joined_121 : decode cX4_joined 121 = .ok (.goto 4, 3) := by decide +kernel
theorem dX4_joined_124 : decode cX4_joined 124 = .ok (.iconst 0, 1) := by decide +kernel
theorem dX4_joined_125 : decode cX4_joined 125 = .ok (.ireturn, 1) := by decide +kernel
theorem dX4_joined_126 : decode cX4_joined 126 = .ok (.iload_n 0, 1) := by decide +kernel
theorem dX4_joined_127 : decode cX4_joined 127 = .ok (.iload_n 2, 1) := by decide +kernel
theorem dX4_joined_128 : decode cX4_joined 128 = .ok (.if_icmp .ne 7, 3) := by decide +kernel
theorem dX4_joined_131 : decode cX4_joined 131 = .ok (.iconst 1, 1) := by decide +kernel
theorem dX4_joined_132 : decode cX4_joined 132 = .ok (.goto 4, 3) := by decide +kernel
theorem dX4_joined_135 : decode cX4_joined 135 = .ok (.iconst 0, 1) := by decide +kernel
theorem dX4_joined_136 : decode cX4_joined 136 = .ok (.ireturn, 1) := by decide +kernel
theorem dX4_meaningOf_0 : decode cX4_meaningOf 0 = .ok (.iload_n 1, 1) := by decide +kernel
theorem dX4_meaningOf_1 : decode cX4_meaningOf 1 = .ok (.ifCond .lt 21, 3) := by decide +kernel
theorem dX4_meaningOf_4 : decode cX4_meaningOf 4 = .ok (.iload_n 1, 1) := by decide +kernel
theorem dX4_meaningOf_5 : decode cX4_meaningOf 5 = .ok (.aload_n 0, 1) := by decide +kernel
theorem dX4_meaningOf_6 : decode cX4_meaningOf 6 = .ok (.getfield 42, 3) := by decide +kernel
theorem dX4_meaningOf_9 : decode cX4_meaningOf 9 = .ok (.arraylength, 1) := by decide +kernel
theorem dX4_meaningOf_10 : decode cX4_meaningOf 10 = .ok (.if_icmp .ge 12, 3) := by decide +kernel
theorem dX4_meaningOf_13 : decode cX4_meaningOf 13 = .ok (.aload_n 0, 1) := by decide +kernel
theorem dX4_meaningOf_14 : decode cX4_meaningOf 14 = .ok (.getfield 42, 3) := by decide +kernel
theorem dX4_meaningOf_17 : decode cX4_meaningOf 17 = .ok (.iload_n 1, 1) := by decide +kernel
theorem dX4_meaningOf_18 : decode cX4_meaningOf 18 = .ok (.iaload, 1) := by decide +kernel
theorem dX4_meaningOf_19 : decode cX4_meaningOf 19 = .ok (.goto 4, 3) := by decide +kernel
theorem dX4_meaningOf_22 : decode cX4_meaningOf 22 = .ok (.iconst 0, 1) := by decide +kernel
theorem dX4_meaningOf_23 : decode cX4_meaningOf 23 = .ok (.ireturn, 1) := by decide +kernel
theorem dX4_push_0 : decode cX4_push 0 = .ok (.aload_n 0, 1) := by decide +kernel
theorem dX4_push_1 : decode cX4_push 1 = .ok (.getfield 48, 3) := by decide +kernel
theorem dX4_push_4 : decode cX4_push 4 = .ok (.ifCond .lt 32, 3) := by decide +kernel
theorem dX4_push_7 : decode cX4_push 7 = .ok (.aload_n 0, 1) := by decide +kernel
theorem dX4_push_8 : decode cX4_push 8 = .ok (.getfield 48, 3) := by decide +kernel
theorem dX4_push_11 : decode cX4_push 11 = .ok (.bipush 32, 2) := by decide +kernel
theorem dX4_push_13 : decode cX4_push 13 = .ok (.if_icmp .ge 23, 3) := by decide +kernel
theorem dX4_push_16 : decode cX4_push 16 = .ok (.aload_n 0, 1) := by decide +kernel
theorem dX4_push_17 : decode cX4_push 17 = .ok (.getfield 45, 3) := by decide +kernel
theorem dX4_push_20 : decode cX4_push 20 = .ok (.aload_n 0, 1) := by decide +kernel
theorem dX4_push_21 : decode cX4_push 21 = .ok (.getfield 48, 3) := by decide +kernel
theorem dX4_push_24 : decode cX4_push 24 = .ok (.iload_n 1, 1) := by decide +kernel
theorem dX4_push_25 : decode cX4_push 25 = .ok (.iastore, 1) := by decide +kernel
theorem dX4_push_26 : decode cX4_push 26 = .ok (.aload_n 0, 1) := by decide +kernel
theorem dX4_push_27 : decode cX4_push 27 = .ok (.dup, 1) := by decide +kernel
theorem dX4_push_28 : decode cX4_push 28 = .ok (.getfield 48, 3) := by decide +kernel
theorem dX4_push_31 : decode cX4_push 31 = .ok (.iconst 1, 1) := by decide +kernel
theorem dX4_push_32 : decode cX4_push 32 = .ok (.iadd, 1) := by decide +kernel
theorem dX4_push_33 : decode cX4_push 33 = .ok (.putfield 48, 3) := by decide +kernel
theorem dX4_push_36 : decode cX4_push 36 = .ok (.return_, 1) := by decide +kernel
theorem dX4_pop_0 : decode cX4_pop 0 = .ok (.aload_n 0, 1) := by decide +kernel
theorem dX4_pop_1 : decode cX4_pop 1 = .ok (.getfield 48, 3) := by decide +kernel
theorem dX4_pop_4 : decode cX4_pop 4 = .ok (.ifCond .le 12, 3) := by decide +kernel
theorem dX4_pop_7 : decode cX4_pop 7 = .ok (.aload_n 0, 1) := by decide +kernel
theorem dX4_pop_8 : decode cX4_pop 8 = .ok (.getfield 48, 3) := by decide +kernel
theorem dX4_pop_11 : decode cX4_pop 11 = .ok (.bipush 32, 2) := by decide +kernel
theorem dX4_pop_13 : decode cX4_pop 13 = .ok (.if_icmp .le 5, 3) := by decide +kernel
theorem dX4_pop_16 : decode cX4_pop 16 = .ok (.iconst 0, 1) := by decide +kernel
theorem dX4_pop_17 : decode cX4_pop 17 = .ok (.ireturn, 1) := by decide +kernel
theorem dX4_pop_18 : decode cX4_pop 18 = .ok (.aload_n 0, 1) := by decide +kernel
theorem dX4_pop_19 : decode cX4_pop 19 = .ok (.dup, 1) := by decide +kernel
theorem dX4_pop_20 : decode cX4_pop 20 = .ok (.getfield 48, 3) := by decide +kernel
theorem dX4_pop_23 : decode cX4_pop 23 = .ok (.iconst 1, 1) := by decide +kernel
theorem dX4_pop_24 : decode cX4_pop 24 = .ok (.isub, 1) := by decide +kernel
theorem dX4_pop_25 : decode cX4_pop 25 = .ok (.putfield 48, 3) := by decide +kernel
theorem dX4_pop_28 : decode cX4_pop 28 = .ok (.aload_n 0, 1) := by decide +kernel
theorem dX4_pop_29 : decode cX4_pop 29 = .ok (.getfield 45, 3) := by decide +kernel
theorem dX4_pop_32 : decode cX4_pop 32 = .ok (.aload_n 0, 1) := by decide +kernel
theorem dX4_pop_33 : decode cX4_pop 33 = .ok (.getfield 48, 3) := by decide +kernel
theorem dX4_pop_36 : decode cX4_pop 36 = .ok (.iaload, 1) := by decide +kernel
theorem dX4_pop_37 : decode cX4_pop 37 = .ok (.ireturn, 1) := by decide +kernel
theorem dX5_init_0 : decode cX5_init 0 = .ok (.aload_n 0, 1) := by decide +kernel
theorem dX5_init_1 : decode cX5_init 1 = .ok (.aload_n 1, 1) := by decide +kernel
theorem dX5_init_2 : decode cX5_init 2 = .ok (.invokespecial 3, 3) := by decide +kernel
theorem dX5_init_5 : decode cX5_init 5 = .ok (.aload_n 0, 1) := by decide +kernel
theorem dX5_init_6 : decode cX5_init 6 = .ok (.aload_n 2, 1) := by decide +kernel
theorem dX5_init_7 : decode cX5_init 7 = .ok (.putfield 9, 3) := by decide +kernel
theorem dX5_init_10 : decode cX5_init 10 = .ok (.return_, 1) := by decide +kernel
theorem dX5_startsLine_0 : decode cX5_startsLine 0 = .ok (.iload_n 1, 1) := by decide +kernel
theorem dX5_startsLine_1 : decode cX5_startsLine 1 = .ok (.bipush 101, 2) := by decide +kernel
theorem dX5_startsLine_3 : decode cX5_startsLine 3 = .ok (.if_icmp .eq 21, 3) := by decide +kernel
theorem dX5_startsLine_6 : decode cX5_startsLine 6 = .ok (.iload_n 1, 1) := by decide +kernel
theorem dX5_startsLine_7 : decode cX5_startsLine 7 = .ok (.bipush 99, 2) := by decide +kernel
theorem dX5_startsLine_9 : decode cX5_startsLine 9 = .ok (.if_icmp .eq 15, 3) := by decide +kernel
theorem dX5_startsLine_12 : decode cX5_startsLine 12 = .ok (.iload_n 1, 1) := by decide +kernel
theorem dX5_startsLine_13 : decode cX5_startsLine 13 = .ok (.bipush 115, 2) := by decide +kernel
theorem dX5_startsLine_15 : decode cX5_startsLine 15 = .ok (.if_icmp .eq 9, 3) := by decide +kernel
theorem dX5_startsLine_18 : decode cX5_startsLine 18 = .ok (.iload_n 1, 1) := by decide +kernel
theorem dX5_startsLine_19 : decode cX5_startsLine 19 = .ok (.bipush 120, 2) := by decide +kernel
theorem dX5_startsLine_21 : decode cX5_startsLine 21 = .ok (.if_icmp .ne 7, 3) := by decide +kernel
theorem dX5_startsLine_24 : decode cX5_startsLine 24 = .ok (.iconst 1, 1) := by decide +kernel
theorem dX5_startsLine_25 : decode cX5_startsLine 25 = .ok (.goto 4, 3) := by decide +kernel
theorem dX5_startsLine_28 : decode cX5_startsLine 28 = .ok (.iconst 0, 1) := by decide +kernel
theorem dX5_startsLine_29 : decode cX5_startsLine 29 = .ok (.ireturn, 1) := by decide +kernel
theorem dX5_readLine_0 : decode cX5_readLine 0 = .ok (.aload_n 0, 1) := by decide +kernel
theorem dX5_readLine_1 : decode cX5_readLine 1 = .ok (.getfield 15, 3) := by decide +kernel
theorem dX5_readLine_4 : decode cX5_readLine 4 = .ok (.invokevirtual 19, 3) := by decide +kernel
theorem dX5_readLine_7 : decode cX5_readLine 7 = .ok (.istore_n 1, 1) := by decide +kernel
theorem dX5_readLine_8 : decode cX5_readLine 8 = .ok (.aload_n 0, 1) := by decide +kernel
theorem dX5_readLine_9 : decode cX5_readLine 9 = .ok (.getfield 15, 3) := by decide +kernel
theorem dX5_readLine_12 : decode cX5_readLine 12 = .ok (.dup, 1) := by decide +kernel
theorem dX5_readLine_13 : decode cX5_readLine 13 = .ok (.getfield 25, 3) := by decide +kernel
theorem dX5_readLine_16 : decode cX5_readLine 16 = .ok (.iconst 1, 1) := by decide +kernel
theorem dX5_readLine_17 : decode cX5_readLine 17 = .ok (.iadd, 1) := by decide +kernel
theorem dX5_readLine_18 : decode cX5_readLine 18 = .ok (.putfield 25, 3) := by decide +kernel
theorem dX5_readLine_21 : decode cX5_readLine 21 = .ok (.aload_n 0, 1) := by decide +kernel
theorem dX5_readLine_22 : decode cX5_readLine 22 = .ok (.getfield 9, 3) := by decide +kernel
theorem dX5_readLine_25 : decode cX5_readLine 25 = .ok (.iload_n 1, 1) := by decide +kernel
theorem dX5_readLine_26 : decode cX5_readLine 26 = .ok (.invokevirtual 29, 3) := by decide +kernel
theorem dX5_readLine_29 : decode cX5_readLine 29 = .ok (.iload_n 1, 1) := by decide +kernel
theorem dX5_readLine_30 : decode cX5_readLine 30 = .ok (.bipush 120, 2) := by decide +kernel
theorem dX5_readLine_32 : decode cX5_readLine 32 = .ok (.if_icmp .eq 13, 3) := by decide +kernel
theorem dX5_readLine_35 : decode cX5_readLine 35 = .ok (.aload_n 0, 1) := by decide +kernel
theorem dX5_readLine_36 : decode cX5_readLine 36 = .ok (.iconst 0, 1) := by decide +kernel
theorem dX5_readLine_37 : decode cX5_readLine 37 = .ok (.invokevirtual 35, 3) := by decide +kernel
theorem dX5_readLine_40 : decode cX5_readLine 40 = .ok (.ifCond .ne 5, 3) := by decide +kernel
theorem dX5_readLine_43 : decode cX5_readLine 43 = .ok (.iconst 0, 1) := by decide +kernel
theorem dX5_readLine_44 : decode cX5_readLine 44 = .ok (.ireturn, 1) := by decide +kernel
theorem dX5_readLine_45 : decode cX5_readLine 45 = .ok (.aload_n 0, 1) := by decide +kernel
theorem dX5_readLine_46 : decode cX5_readLine 46 = .ok (.getfield 9, 3) := by decide +kernel
theorem dX5_readLine_49 : decode cX5_readLine 49 = .ok (.bipush 46, 2) := by decide +kernel
theorem dX5_readLine_51 : decode cX5_readLine 51 = .ok (.iconst 0, 1) := by decide +kernel
theorem dX5_readLine_52 : decode cX5_readLine 52 = .ok (.invokevirtual 39, 3) := by decide +kernel
theorem dX5_readLine_55 : decode cX5_readLine 55 = .ok (.pop, 1) := by decide +kernel
theorem dX5_readLine_56 : decode cX5_readLine 56 = .ok (.aload_n 0, 1) := by decide +kernel
theorem dX5_readLine_57 : decode cX5_readLine 57 = .ok (.getfield 9, 3) := by decide +kernel
theorem dX5_readLine_60 : decode cX5_readLine 60 = .ok (.invokevirtual 43, 3) := by decide +kernel
theorem dX5_readLine_63 : decode cX5_readLine 63 = .ok (.aload_n 0, 1) := by decide +kernel
theorem dX5_readLine_64 : decode cX5_readLine 64 = .ok (.getfield 15, 3) := by decide +kernel
theorem dX5_readLine_67 : decode cX5_readLine 67 = .ok (.bipush 40, 2) := by decide +kernel
theorem dX5_readLine_69 : decode cX5_readLine 69 = .ok (.invokevirtual 47, 3) := by decide +kernel
theorem dX5_readLine_72 : decode cX5_readLine 72 = .ok (.ifCond .eq 23, 3) := by decide +kernel
theorem dX5_readLine_75 : decode cX5_readLine 75 = .ok (.aload_n 0, 1) := by decide +kernel
theorem dX5_readLine_76 : decode cX5_readLine 76 = .ok (.iconst 1, 1) := by decide +kernel
theorem dX5_readLine_77 : decode cX5_readLine 77 = .ok (.invokevirtual 50, 3) := by decide +kernel
theorem dX5_readLine_80 : decode cX5_readLine 80 = .ok (.ifCond .eq 15, 3) := by decide +kernel
theorem dX5_readLine_83 : decode cX5_readLine 83 = .ok (.aload_n 0, 1) := by decide +kernel
theorem dX5_readLine_84 : decode cX5_readLine 84 = .ok (.getfield 15, 3) := by decide +kernel
theorem dX5_readLine_87 : decode cX5_readLine 87 = .ok (.bipush 41, 2) := by decide +kernel
theorem dX5_readLine_89 : decode cX5_readLine 89 = .ok (.invokevirtual 47, 3) := by decide +kernel
theorem dX5_readLine_92 : decode cX5_readLine 92 = .ok (.ifCond .ne 5, 3) := by decide +kernel
theorem dX5_readLine_95 : decode cX5_readLine 95 = .ok (.iconst 0, 1) := by decide +kernel
theorem dX5_readLine_96 : decode cX5_readLine 96 = .ok (.ireturn, 1) := by decide +kernel
theorem dX5_readLine_97 : decode cX5_readLine 97 = .ok (.aload_n 0, 1) := by decide +kernel
theorem dX5_readLine_98 : decode cX5_readLine 98 = .ok (.getfield 9, 3) := by decide +kernel
theorem dX5_readLine_101 : decode cX5_readLine 101 = .ok (.bipush 46, 2) := by decide +kernel
theorem dX5_readLine_103 : decode cX5_readLine 103 = .ok (.iconst 0, 1) := by decide +kernel
theorem dX5_readLine_104 : decode cX5_readLine 104 = .ok (.invokevirtual 39, 3) := by decide +kernel
theorem dX5_readLine_107 : decode cX5_readLine 107 = .ok (.pop, 1) := by decide +kernel
theorem dX5_readLine_108 : decode cX5_readLine 108 = .ok (.aload_n 0, 1) := by decide +kernel
theorem dX5_readLine_109 : decode cX5_readLine 109 = .ok (.getfield 9, 3) := by decide +kernel
theorem dX5_readLine_112 : decode cX5_readLine 112 = .ok (.invokevirtual 53, 3) := by decide +kernel
theorem dX5_readLine_115 : decode cX5_readLine 115 = .ok (.iconst 1, 1) := by decide +kernel
theorem dX5_readLine_116 : decode cX5_readLine 116 = .ok (.ireturn, 1) := by decide +kernel
theorem dX5_readAnyOf_0 : decode cX5_readAnyOf 0 = .ok (.aload_n 0, 1) := by decide +kernel
theorem dX5_readAnyOf_1 : decode cX5_readAnyOf 1 = .ok (.iload_n 1, 1) := by decide +kernel
theorem dX5_readAnyOf_2 : decode cX5_readAnyOf 2 = .ok (.invokevirtual 56, 3) := by decide +kernel
theorem dX5_readAnyOf_5 : decode cX5_readAnyOf 5 = .ok (.ifCond .ne 5, 3) := by decide +kernel
theorem dX5_readAnyOf_8 : decode cX5_readAnyOf 8 = .ok (.iconst 0, 1) := by decide +kernel
theorem dX5_readAnyOf_9 : decode cX5_readAnyOf 9 = .ok (.ireturn, 1) := by decide +kernel
theorem dX5_readAnyOf_10 : decode cX5_readAnyOf 10 = .ok (.aload_n 0, 1) := by decide +kernel
theorem dX5_readAnyOf_11 : decode cX5_readAnyOf 11 = .ok (.getfield 15, 3) := by decide +kernel
theorem dX5_readAnyOf_14 : decode cX5_readAnyOf 14 = .ok (.getfield 25, 3) := by decide +kernel
theorem dX5_readAnyOf_17 : decode cX5_readAnyOf 17 = .ok (.aload_n 0, 1) := by decide +kernel
theorem dX5_readAnyOf_18 : decode cX5_readAnyOf 18 = .ok (.getfield 15, 3) := by decide +kernel
theorem dX5_readAnyOf_21 : decode cX5_readAnyOf 21 = .ok (.getfield 59, 3) := by decide +kernel
theorem dX5_readAnyOf_24 : decode cX5_readAnyOf 24 = .ok (.if_icmp .ge 60, 3) := by decide +kernel
theorem dX5_readAnyOf_27 : decode cX5_readAnyOf 27 = .ok (.aload_n 0, 1) := by decide +kernel
theorem dX5_readAnyOf_28 : decode cX5_readAnyOf 28 = .ok (.getfield 15, 3) := by decide +kernel
theorem dX5_readAnyOf_31 : decode cX5_readAnyOf 31 = .ok (.invokevirtual 19, 3) := by decide +kernel
theorem dX5_readAnyOf_34 : decode cX5_readAnyOf 34 = .ok (.bipush 124, 2) := by decide +kernel
theorem dX5_readAnyOf_36 : decode cX5_readAnyOf 36 = .ok (.if_icmp .ne 48, 3) := by decide +kernel
theorem dX5_readAnyOf_39 : decode cX5_readAnyOf 39 = .ok (.aload_n 0, 1) := by decide +kernel
theorem dX5_readAnyOf_40 : decode cX5_readAnyOf 40 = .ok (.getfield 15, 3) := by decide +kernel
theorem dX5_readAnyOf_43 : decode cX5_readAnyOf 43 = .ok (.dup, 1) := by decide +kernel
theorem dX5_readAnyOf_44 : decode cX5_readAnyOf 44 = .ok (.getfield 25, 3) := by decide +kernel
theorem dX5_readAnyOf_47 : decode cX5_readAnyOf 47 = .ok (.iconst 1, 1) := by decide +kernel
theorem dX5_readAnyOf_48 : decode cX5_readAnyOf 48 = .ok (.iadd, 1) := by decide +kernel
theorem dX5_readAnyOf_49 : decode cX5_readAnyOf 49 = .ok (.putfield 25, 3) := by decide +kernel
theorem dX5_readAnyOf_52 : decode cX5_readAnyOf 52 = .ok (.aload_n 0, 1) := by decide +kernel
theorem dX5_readAnyOf_53 : decode cX5_readAnyOf 53 = .ok (.getfield 9, 3) := by decide +kernel
theorem dX5_readAnyOf_56 : decode cX5_readAnyOf 56 = .ok (.bipush 124, 2) := by decide +kernel
theorem dX5_readAnyOf_58 : decode cX5_readAnyOf 58 = .ok (.iconst 0, 1) := by decide +kernel
theorem dX5_readAnyOf_59 : decode cX5_readAnyOf 59 = .ok (.invokevirtual 39, 3) := by decide +kernel
theorem dX5_readAnyOf_62 : decode cX5_readAnyOf 62 = .ok (.istore_n 2, 1) := by decide +kernel
theorem dX5_readAnyOf_63 : decode cX5_readAnyOf 63 = .ok (.aload_n 0, 1) := by decide +kernel
theorem dX5_readAnyOf_64 : decode cX5_readAnyOf 64 = .ok (.iload_n 1, 1) := by decide +kernel
theorem dX5_readAnyOf_65 : decode cX5_readAnyOf 65 = .ok (.invokevirtual 56, 3) := by decide +kernel
theorem dX5_readAnyOf_68 : decode cX5_readAnyOf 68 = .ok (.ifCond .ne 5, 3) := by decide +kernel
theorem dX5_readAnyOf_71 : decode cX5_readAnyOf 71 = .ok (.iconst 0, 1) := by decide +kernel
theorem dX5_readAnyOf_72 : decode cX5_readAnyOf 72 = .ok (.ireturn, 1) := by decide +kernel
theorem dX5_readAnyOf_73 : decode cX5_readAnyOf 73 = .ok (.aload_n 0, 1) := by decide +kernel
theorem dX5_readAnyOf_74 : decode cX5_readAnyOf 74 = .ok (.getfield 9, 3) := by decide +kernel
theorem dX5_readAnyOf_77 : decode cX5_readAnyOf 77 = .ok (.iload_n 2, 1) := by decide +kernel
theorem dX5_readAnyOf_78 : decode cX5_readAnyOf 78 = .ok (.invokevirtual 62, 3) := by decide +kernel
theorem dX5_readAnyOf_81 : decode cX5_readAnyOf 81 = .ok (.goto (-71), 3) := by decide +kernel
theorem dX5_readAnyOf_84 : decode cX5_readAnyOf 84 = .ok (.iconst 1, 1) := by decide +kernel
theorem dX5_readAnyOf_85 : decode cX5_readAnyOf 85 = .ok (.ireturn, 1) := by decide +kernel
theorem dX5_readAllOf_0 : decode cX5_readAllOf 0 = .ok (.aload_n 0, 1) := by decide +kernel
theorem dX5_readAllOf_1 : decode cX5_readAllOf 1 = .ok (.iload_n 1, 1) := by decide +kernel
theorem dX5_readAllOf_2 : decode cX5_readAllOf 2 = .ok (.invokevirtual 65, 3) := by decide +kernel
theorem dX5_readAllOf_5 : decode cX5_readAllOf 5 = .ok (.ifCond .ne 5, 3) := by decide +kernel
theorem dX5_readAllOf_8 : decode cX5_readAllOf 8 = .ok (.iconst 0, 1) := by decide +kernel
theorem dX5_readAllOf_9 : decode cX5_readAllOf 9 = .ok (.ireturn, 1) := by decide +kernel
theorem dX5_readAllOf_10 : decode cX5_readAllOf 10 = .ok (.aload_n 0, 1) := by decide +kernel
theorem dX5_readAllOf_11 : decode cX5_readAllOf 11 = .ok (.getfield 15, 3) := by decide +kernel
theorem dX5_readAllOf_14 : decode cX5_readAllOf 14 = .ok (.getfield 25, 3) := by decide +kernel
theorem dX5_readAllOf_17 : decode cX5_readAllOf 17 = .ok (.aload_n 0, 1) := by decide +kernel
theorem dX5_readAllOf_18 : decode cX5_readAllOf 18 = .ok (.getfield 15, 3) := by decide +kernel
theorem dX5_readAllOf_21 : decode cX5_readAllOf 21 = .ok (.getfield 59, 3) := by decide +kernel
theorem dX5_readAllOf_24 : decode cX5_readAllOf 24 = .ok (.if_icmp .ge 60, 3) := by decide +kernel
theorem dX5_readAllOf_27 : decode cX5_readAllOf 27 = .ok (.aload_n 0, 1) := by decide +kernel
theorem dX5_readAllOf_28 : decode cX5_readAllOf 28 = .ok (.getfield 15, 3) := by decide +kernel
theorem dX5_readAllOf_31 : decode cX5_readAllOf 31 = .ok (.invokevirtual 19, 3) := by decide +kernel
theorem dX5_readAllOf_34 : decode cX5_readAllOf 34 = .ok (.bipush 38, 2) := by decide +kernel
theorem dX5_readAllOf_36 : decode cX5_readAllOf 36 = .ok (.if_icmp .ne 48, 3) := by decide +kernel
theorem dX5_readAllOf_39 : decode cX5_readAllOf 39 = .ok (.aload_n 0, 1) := by decide +kernel
theorem dX5_readAllOf_40 : decode cX5_readAllOf 40 = .ok (.getfield 15, 3) := by decide +kernel
theorem dX5_readAllOf_43 : decode cX5_readAllOf 43 = .ok (.dup, 1) := by decide +kernel
theorem dX5_readAllOf_44 : decode cX5_readAllOf 44 = .ok (.getfield 25, 3) := by decide +kernel
theorem dX5_readAllOf_47 : decode cX5_readAllOf 47 = .ok (.iconst 1, 1) := by decide +kernel
theorem dX5_readAllOf_48 : decode cX5_readAllOf 48 = .ok (.iadd, 1) := by decide +kernel
theorem dX5_readAllOf_49 : decode cX5_readAllOf 49 = .ok (.putfield 25, 3) := by decide +kernel
theorem dX5_readAllOf_52 : decode cX5_readAllOf 52 = .ok (.aload_n 0, 1) := by decide +kernel
theorem dX5_readAllOf_53 : decode cX5_readAllOf 53 = .ok (.getfield 9, 3) := by decide +kernel
theorem dX5_readAllOf_56 : decode cX5_readAllOf 56 = .ok (.bipush 38, 2) := by decide +kernel
theorem dX5_readAllOf_58 : decode cX5_readAllOf 58 = .ok (.iconst 0, 1) := by decide +kernel
theorem dX5_readAllOf_59 : decode cX5_readAllOf 59 = .ok (.invokevirtual 39, 3) := by decide +kernel
theorem dX5_readAllOf_62 : decode cX5_readAllOf 62 = .ok (.istore_n 2, 1) := by decide +kernel
theorem dX5_readAllOf_63 : decode cX5_readAllOf 63 = .ok (.aload_n 0, 1) := by decide +kernel
theorem dX5_readAllOf_64 : decode cX5_readAllOf 64 = .ok (.iload_n 1, 1) := by decide +kernel
theorem dX5_readAllOf_65 : decode cX5_readAllOf 65 = .ok (.invokevirtual 65, 3) := by decide +kernel
theorem dX5_readAllOf_68 : decode cX5_readAllOf 68 = .ok (.ifCond .ne 5, 3) := by decide +kernel
theorem dX5_readAllOf_71 : decode cX5_readAllOf 71 = .ok (.iconst 0, 1) := by decide +kernel
theorem dX5_readAllOf_72 : decode cX5_readAllOf 72 = .ok (.ireturn, 1) := by decide +kernel
theorem dX5_readAllOf_73 : decode cX5_readAllOf 73 = .ok (.aload_n 0, 1) := by decide +kernel
theorem dX5_readAllOf_74 : decode cX5_readAllOf 74 = .ok (.getfield 9, 3) := by decide +kernel
theorem dX5_readAllOf_77 : decode cX5_readAllOf 77 = .ok (.iload_n 2, 1) := by decide +kernel
theorem dX5_readAllOf_78 : decode cX5_readAllOf 78 = .ok (.invokevirtual 62, 3) := by decide +kernel
theorem dX5_readAllOf_81 : decode cX5_readAllOf 81 = .ok (.goto (-71), 3) := by decide +kernel
theorem dX5_readAllOf_84 : decode cX5_readAllOf 84 = .ok (.iconst 1, 1) := by decide +kernel
theorem dX5_readAllOf_85 : decode cX5_readAllOf 85 = .ok (.ireturn, 1) := by decide +kernel
theorem dX5_readTest_0 : decode cX5_readTest 0 = .ok (.aload_n 0, 1) := by decide +kernel
theorem dX5_readTest_1 : decode cX5_readTest 1 = .ok (.getfield 15, 3) := by decide +kernel
theorem dX5_readTest_4 : decode cX5_readTest 4 = .ok (.invokevirtual 19, 3) := by decide +kernel
theorem dX5_readTest_7 : decode cX5_readTest 7 = .ok (.istore_n 2, 1) := by decide +kernel
theorem dX5_readTest_8 : decode cX5_readTest 8 = .ok (.iload_n 2, 1) := by decide +kernel
theorem dX5_readTest_9 : decode cX5_readTest 9 = .ok (.bipush 33, 2) := by decide +kernel
theorem dX5_readTest_11 : decode cX5_readTest 11 = .ok (.if_icmp .ne 9, 3) := by decide +kernel
theorem dX5_readTest_14 : decode cX5_readTest 14 = .ok (.aload_n 0, 1) := by decide +kernel
theorem dX5_readTest_15 : decode cX5_readTest 15 = .ok (.iload_n 1, 1) := by decide +kernel
theorem dX5_readTest_16 : decode cX5_readTest 16 = .ok (.invokevirtual 68, 3) := by decide +kernel
theorem dX5_readTest_19 : decode cX5_readTest 19 = .ok (.ireturn, 1) := by decide +kernel
theorem dX5_readTest_20 : decode cX5_readTest 20 = .ok (.iload_n 2, 1) := by decide +kernel
theorem dX5_readTest_21 : decode cX5_readTest 21 = .ok (.bipush 40, 2) := by decide +kernel
theorem dX5_readTest_23 : decode cX5_readTest 23 = .ok (.if_icmp .ne 39, 3) := by decide +kernel
theorem dX5_readTest_26 : decode cX5_readTest 26 = .ok (.aload_n 0, 1) := by decide +kernel
theorem dX5_readTest_27 : decode cX5_readTest 27 = .ok (.iload_n 1, 1) := by decide +kernel
theorem dX5_readTest_28 : decode cX5_readTest 28 = .ok (.invokevirtual 71, 3) := by decide +kernel
theorem dX5_readTest_31 : decode cX5_readTest 31 = .ok (.ifCond .eq 29, 3) := by decide +kernel
theorem dX5_readTest_34 : decode cX5_readTest 34 = .ok (.aload_n 0, 1) := by decide +kernel
theorem dX5_readTest_35 : decode cX5_readTest 35 = .ok (.iload_n 1, 1) := by decide +kernel
theorem dX5_readTest_36 : decode cX5_readTest 36 = .ok (.iconst 1, 1) := by decide +kernel
theorem dX5_readTest_37 : decode cX5_readTest 37 = .ok (.iadd, 1) := by decide +kernel
theorem dX5_readTest_38 : decode cX5_readTest 38 = .ok (.invokevirtual 50, 3) := by decide +kernel
theorem dX5_readTest_41 : decode cX5_readTest 41 = .ok (.ifCond .eq 19, 3) := by decide +kernel
theorem dX5_readTest_44 : decode cX5_readTest 44 = .ok (.aload_n 0, 1) := by decide +kernel
theorem dX5_readTest_45 : decode cX5_readTest 45 = .ok (.getfield 15, 3) := by decide +kernel
theorem dX5_readTest_48 : decode cX5_readTest 48 = .ok (.bipush 41, 2) := by decide +kernel
theorem dX5_readTest_50 : decode cX5_readTest 50 = .ok (.invokevirtual 47, 3) := by decide +kernel
theorem dX5_readTest_53 : decode cX5_readTest 53 = .ok (.ifCond .eq 7, 3) := by decide +kernel
theorem dX5_readTest_56 : decode cX5_readTest 56 = .ok (.iconst 1, 1) := by decide +kernel
theorem dX5_readTest_57 : decode cX5_readTest 57 = .ok (.goto 4, 3) := by decide +kernel
theorem dX5_readTest_60 : decode cX5_readTest 60 = .ok (.iconst 0, 1) := by decide +kernel
theorem dX5_readTest_61 : decode cX5_readTest 61 = .ok (.ireturn, 1) := by decide +kernel
theorem dX5_readTest_62 : decode cX5_readTest 62 = .ok (.aload_n 0, 1) := by decide +kernel
theorem dX5_readTest_63 : decode cX5_readTest 63 = .ok (.iload_n 1, 1) := by decide +kernel
theorem dX5_readTest_64 : decode cX5_readTest 64 = .ok (.invokevirtual 74, 3) := by decide +kernel
theorem dX5_readTest_67 : decode cX5_readTest 67 = .ok (.ireturn, 1) := by decide +kernel
theorem dX5_readNegation_0 : decode cX5_readNegation 0 = .ok (.aload_n 0, 1) := by decide +kernel
theorem dX5_readNegation_1 : decode cX5_readNegation 1 = .ok (.iload_n 1, 1) := by decide +kernel
theorem dX5_readNegation_2 : decode cX5_readNegation 2 = .ok (.invokevirtual 71, 3) := by decide +kernel
theorem dX5_readNegation_5 : decode cX5_readNegation 5 = .ok (.ifCond .eq 13, 3) := by decide +kernel
theorem dX5_readNegation_8 : decode cX5_readNegation 8 = .ok (.aload_n 0, 1) := by decide +kernel
theorem dX5_readNegation_9 : decode cX5_readNegation 9 = .ok (.iload_n 1, 1) := by decide +kernel
theorem dX5_readNegation_10 : decode cX5_readNegation 10 = .ok (.iconst 1, 1) := by decide +kernel
theorem dX5_readNegation_11 : decode cX5_readNegation 11 = .ok (.iadd, 1) := by decide +kernel
theorem dX5_readNegation_12 : decode cX5_readNegation 12 = .ok (.invokevirtual 65, 3) := by decide +kernel
theorem dX5_readNegation_15 : decode cX5_readNegation 15 = .ok (.ifCond .ne 5, 3) := by decide +kernel
theorem dX5_readNegation_18 : decode cX5_readNegation 18 = .ok (.iconst 0, 1) := by decide +kernel
theorem dX5_readNegation_19 : decode cX5_readNegation 19 = .ok (.ireturn, 1) := by decide +kernel
theorem dX5_readNegation_20 : decode cX5_readNegation 20 = .ok (.aload_n 0, 1) := by decide +kernel
theorem dX5_readNegation_21 : decode cX5_readNegation 21 = .ok (.getfield 9, 3) := by decide +kernel
theorem dX5_readNegation_24 : decode cX5_readNegation 24 = .ok (.bipush 33, 2) := by decide +kernel
theorem dX5_readNegation_26 : decode cX5_readNegation 26 = .ok (.iconst 0, 1) := by decide +kernel
theorem dX5_readNegation_27 : decode cX5_readNegation 27 = .ok (.invokevirtual 39, 3) := by decide +kernel
theorem dX5_readNegation_30 : decode cX5_readNegation 30 = .ok (.pop, 1) := by decide +kernel
theorem dX5_readNegation_31 : decode cX5_readNegation 31 = .ok (.iconst 1, 1) := by decide +kernel
theorem dX5_readNegation_32 : decode cX5_readNegation 32 = .ok (.ireturn, 1) := by decide +kernel
theorem dX5_open_0 : decode cX5_open 0 = .ok (.iload_n 1, 1) := by decide +kernel
theorem dX5_open_1 : decode cX5_open 1 = .ok (.bipush 6, 2) := by decide +kernel
theorem dX5_open_3 : decode cX5_open 3 = .ok (.if_icmp .lt 19, 3) := by decide +kernel
theorem dX5_open_6 : decode cX5_open 6 = .ok (.aload_n 0, 1) := by decide +kernel
theorem dX5_open_7 : decode cX5_open 7 = .ok (.getfield 15, 3) := by decide +kernel
theorem dX5_open_10 : decode cX5_open 10 = .ok (.iconst 5, 1) := by decide +kernel
theorem dX5_open_11 : decode cX5_open 11 = .ok (.aload_n 0, 1) := by decide +kernel
theorem dX5_open_12 : decode cX5_open 12 = .ok (.getfield 15, 3) := by decide +kernel
theorem dX5_open_15 : decode cX5_open 15 = .ok (.getfield 25, 3) := by decide +kernel
theorem dX5_open_18 : decode cX5_open 18 = .ok (.invokevirtual 77, 3) := by decide +kernel
theorem dX5_open_21 : decode cX5_open 21 = .ok (.ireturn, 1) := by decide +kernel
theorem dX5_open_22 : decode cX5_open 22 = .ok (.aload_n 0, 1) := by decide +kernel
theorem dX5_open_23 : decode cX5_open 23 = .ok (.getfield 15, 3) := by decide +kernel
theorem dX5_open_26 : decode cX5_open 26 = .ok (.dup, 1) := by decide +kernel
theorem dX5_open_27 : decode cX5_open 27 = .ok (.getfield 25, 3) := by decide +kernel
theorem dX5_open_30 : decode cX5_open 30 = .ok (.iconst 1, 1) := by decide +kernel
theorem dX5_open_31 : decode cX5_open 31 = .ok (.iadd, 1) := by decide +kernel
theorem dX5_open_32 : decode cX5_open 32 = .ok (.putfield 25, 3) := by decide +kernel
theorem dX5_open_35 : decode cX5_open 35 = .ok (.iconst 1, 1) := by decide +kernel
theorem dX5_open_36 : decode cX5_open 36 = .ok (.ireturn, 1) := by decide +kernel
theorem dX5_readComparison_0 : decode cX5_readComparison 0 = .ok (.aload_n 0, 1) := by decide +kernel
theorem dX5_readComparison_1 : decode cX5_readComparison 1 = .ok (.iload_n 1, 1) := by decide +kernel
theorem dX5_readComparison_2 : decode cX5_readComparison 2 = .ok (.invokevirtual 35, 3) := by decide +kernel
theorem dX5_readComparison_5 : decode cX5_readComparison 5 = .ok (.ifCond .ne 5, 3) := by decide +kernel
theorem dX5_readComparison_8 : decode cX5_readComparison 8 = .ok (.iconst 0, 1) := by decide +kernel
theorem dX5_readComparison_9 : decode cX5_readComparison 9 = .ok (.ireturn, 1) := by decide +kernel
theorem dX5_readComparison_10 : decode cX5_readComparison 10 = .ok (.aload_n 0, 1) := by decide +kernel
theorem dX5_readComparison_11 : decode cX5_readComparison 11 = .ok (.getfield 15, 3) := by decide +kernel
theorem dX5_readComparison_14 : decode cX5_readComparison 14 = .ok (.invokevirtual 19, 3) := by decide +kernel
theorem dX5_readComparison_17 : decode cX5_readComparison 17 = .ok (.istore_n 2, 1) := by decide +kernel
theorem dX5_readComparison_18 : decode cX5_readComparison 18 = .ok (.iload_n 2, 1) := by decide +kernel
theorem dX5_readComparison_19 : decode cX5_readComparison 19 = .ok (.bipush 60, 2) := by decide +kernel
theorem dX5_readComparison_21 : decode cX5_readComparison 21 = .ok (.if_icmp .eq 23, 3) := by decide +kernel
theorem dX5_readComparison_24 : decode cX5_readComparison 24 = .ok (.iload_n 2, 1) := by decide +kernel
theorem dX5_readComparison_25 : decode cX5_readComparison 25 = .ok (.bipush 62, 2) := by decide +kernel
theorem dX5_readComparison_27 : decode cX5_readComparison 27 = .ok (.if_icmp .eq 17, 3) := by decide +kernel
theorem dX5_readComparison_30 : decode cX5_readComparison 30 = .ok (.iload_n 2, 1) := by decide +kernel
theorem dX5_readComparison_31 : decode cX5_readComparison 31 = .ok (.bipush 61, 2) := by decide +kernel
theorem dX5_readComparison_33 : decode cX5_readComparison 33 = .ok (.if_icmp .eq 11, 3) := by decide +kernel
theorem dX5_readComparison_36 : decode cX5_readComparison 36 = .ok (.aload_n 0, 1) := by decide +kernel
theorem dX5_readComparison_37 : decode cX5_readComparison 37 = .ok (.getfield 15, 3) := by decide +kernel
theorem dX5_readComparison_40 : decode cX5_readComparison 40 = .ok (.invokevirtual 81, 3) := by decide +kernel
theorem dX5_readComparison_43 : decode cX5_readComparison 43 = .ok (.ireturn, 1) := by decide +kernel
theorem dX5_readComparison_44 : decode cX5_readComparison 44 = .ok (.aload_n 0, 1) := by decide +kernel
theorem dX5_readComparison_45 : decode cX5_readComparison 45 = .ok (.getfield 15, 3) := by decide +kernel
theorem dX5_readComparison_48 : decode cX5_readComparison 48 = .ok (.dup, 1) := by decide +kernel
theorem dX5_readComparison_49 : decode cX5_readComparison 49 = .ok (.getfield 25, 3) := by decide +kernel
theorem dX5_readComparison_52 : decode cX5_readComparison 52 = .ok (.iconst 1, 1) := by decide +kernel
theorem dX5_readComparison_53 : decode cX5_readComparison 53 = .ok (.iadd, 1) := by decide +kernel
theorem dX5_readComparison_54 : decode cX5_readComparison 54 = .ok (.putfield 25, 3) := by decide +kernel
theorem dX5_readComparison_57 : decode cX5_readComparison 57 = .ok (.aload_n 0, 1) := by decide +kernel
theorem dX5_readComparison_58 : decode cX5_readComparison 58 = .ok (.iload_n 1, 1) := by decide +kernel
theorem dX5_readComparison_59 : decode cX5_readComparison 59 = .ok (.invokevirtual 35, 3) := by decide +kernel
theorem dX5_readComparison_62 : decode cX5_readComparison 62 = .ok (.ifCond .ne 5, 3) := by decide +kernel
theorem dX5_readComparison_65 : decode cX5_readComparison 65 = .ok (.iconst 0, 1) := by decide +kernel
theorem dX5_readComparison_66 : decode cX5_readComparison 66 = .ok (.ireturn, 1) := by decide +kernel
theorem dX5_readComparison_67 : decode cX5_readComparison 67 = .ok (.aload_n 0, 1) := by decide +kernel
theorem dX5_readComparison_68 : decode cX5_readComparison 68 = .ok (.getfield 9, 3) := by decide +kernel
theorem dX5_readComparison_71 : decode cX5_readComparison 71 = .ok (.iload_n 2, 1) := by decide +kernel
theorem dX5_readComparison_72 : decode cX5_readComparison 72 = .ok (.iconst 0, 1) := by decide +kernel
theorem dX5_readComparison_73 : decode cX5_readComparison 73 = .ok (.invokevirtual 39, 3) := by decide +kernel
theorem dX5_readComparison_76 : decode cX5_readComparison 76 = .ok (.pop, 1) := by decide +kernel
theorem dX5_readComparison_77 : decode cX5_readComparison 77 = .ok (.iconst 1, 1) := by decide +kernel
theorem dX5_readComparison_78 : decode cX5_readComparison 78 = .ok (.ireturn, 1) := by decide +kernel
theorem dX5_readSum_0 : decode cX5_readSum 0 = .ok (.aload_n 0, 1) := by decide +kernel
theorem dX5_readSum_1 : decode cX5_readSum 1 = .ok (.iload_n 1, 1) := by decide +kernel
theorem dX5_readSum_2 : decode cX5_readSum 2 = .ok (.invokevirtual 85, 3) := by decide +kernel
theorem dX5_readSum_5 : decode cX5_readSum 5 = .ok (.ifCond .ne 5, 3) := by decide +kernel
theorem dX5_readSum_8 : decode cX5_readSum 8 = .ok (.iconst 0, 1) := by decide +kernel
theorem dX5_readSum_9 : decode cX5_readSum 9 = .ok (.ireturn, 1) := by decide +kernel
theorem dX5_readSum_10 : decode cX5_readSum 10 = .ok (.aload_n 0, 1) := by decide +kernel
theorem dX5_readSum_11 : decode cX5_readSum 11 = .ok (.getfield 15, 3) := by decide +kernel
theorem dX5_readSum_14 : decode cX5_readSum 14 = .ok (.getfield 25, 3) := by decide +kernel
theorem dX5_readSum_17 : decode cX5_readSum 17 = .ok (.aload_n 0, 1) := by decide +kernel
theorem dX5_readSum_18 : decode cX5_readSum 18 = .ok (.getfield 15, 3) := by decide +kernel
theorem dX5_readSum_21 : decode cX5_readSum 21 = .ok (.getfield 59, 3) := by decide +kernel
theorem dX5_readSum_24 : decode cX5_readSum 24 = .ok (.if_icmp .ge 71, 3) := by decide +kernel
theorem dX5_readSum_27 : decode cX5_readSum 27 = .ok (.aload_n 0, 1) := by decide +kernel
theorem dX5_readSum_28 : decode cX5_readSum 28 = .ok (.getfield 15, 3) := by decide +kernel
theorem dX5_readSum_31 : decode cX5_readSum 31 = .ok (.invokevirtual 19, 3) := by decide +kernel
theorem dX5_readSum_34 : decode cX5_readSum 34 = .ok (.bipush 43, 2) := by decide +kernel
theorem dX5_readSum_36 : decode cX5_readSum 36 = .ok (.if_icmp .eq 15, 3) := by decide +kernel
theorem dX5_readSum_39 : decode cX5_readSum 39 = .ok (.aload_n 0, 1) := by decide +kernel
theorem dX5_readSum_40 : decode cX5_readSum 40 = .ok (.getfield 15, 3) := by decide +kernel
theorem dX5_readSum_43 : decode cX5_readSum 43 = .ok (.invokevirtual 19, 3) := by decide +kernel
theorem dX5_readSum_46 : decode cX5_readSum 46 = .ok (.bipush 45, 2) := by decide +kernel
theorem dX5_readSum_48 : decode cX5_readSum 48 = .ok (.if_icmp .ne 47, 3) := by decide +kernel
theorem dX5_readSum_51 : decode cX5_readSum 51 = .ok (.aload_n 0, 1) := by decide +kernel
theorem dX5_readSum_52 : decode cX5_readSum 52 = .ok (.getfield 15, 3) := by decide +kernel
theorem dX5_readSum_55 : decode cX5_readSum 55 = .ok (.invokevirtual 19, 3) := by decide +kernel
theorem dX5_readSum_58 : decode cX5_readSum 58 = .ok (.istore_n 2, 1) := by decide +kernel
theorem dX5_readSum_59 : decode cX5_readSum 59 = .ok (.aload_n 0, 1) := by decide +kernel
theorem dX5_readSum_60 : decode cX5_readSum 60 = .ok (.getfield 15, 3) := by decide +kernel
theorem dX5_readSum_63 : decode cX5_readSum 63 = .ok (.dup, 1) := by decide +kernel
theorem dX5_readSum_64 : decode cX5_readSum 64 = .ok (.getfield 25, 3) := by decide +kernel
theorem dX5_readSum_67 : decode cX5_readSum 67 = .ok (.iconst 1, 1) := by decide +kernel
theorem dX5_readSum_68 : decode cX5_readSum 68 = .ok (.iadd, 1) := by decide +kernel
theorem dX5_readSum_69 : decode cX5_readSum 69 = .ok (.putfield 25, 3) := by decide +kernel
theorem dX5_readSum_72 : decode cX5_readSum 72 = .ok (.aload_n 0, 1) := by decide +kernel
theorem dX5_readSum_73 : decode cX5_readSum 73 = .ok (.iload_n 1, 1) := by decide +kernel
theorem dX5_readSum_74 : decode cX5_readSum 74 = .ok (.invokevirtual 85, 3) := by decide +kernel
theorem dX5_readSum_77 : decode cX5_readSum 77 = .ok (.ifCond .ne 5, 3) := by decide +kernel
theorem dX5_readSum_80 : decode cX5_readSum 80 = .ok (.iconst 0, 1) := by decide +kernel
theorem dX5_readSum_81 : decode cX5_readSum 81 = .ok (.ireturn, 1) := by decide +kernel
theorem dX5_readSum_82 : decode cX5_readSum 82 = .ok (.aload_n 0, 1) := by decide +kernel
theorem dX5_readSum_83 : decode cX5_readSum 83 = .ok (.getfield 9, 3) := by decide +kernel
theorem dX5_readSum_86 : decode cX5_readSum 86 = .ok (.iload_n 2, 1) := by decide +kernel
theorem dX5_readSum_87 : decode cX5_readSum 87 = .ok (.iconst 0, 1) := by decide +kernel
theorem dX5_readSum_88 : decode cX5_readSum 88 = .ok (.invokevirtual 39, 3) := by decide +kernel
theorem dX5_readSum_91 : decode cX5_readSum 91 = .ok (.pop, 1) := by decide +kernel
theorem dX5_readSum_92 : decode cX5_readSum 92 = .ok (.goto (-82), 3) := by decide +kernel
theorem dX5_readSum_95 : decode cX5_readSum 95 = .ok (.iconst 1, 1) := by decide +kernel
theorem dX5_readSum_96 : decode cX5_readSum 96 = .ok (.ireturn, 1) := by decide +kernel
theorem dX5_readProduct_0 : decode cX5_readProduct 0 = .ok (.aload_n 0, 1) := by decide +kernel
theorem dX5_readProduct_1 : decode cX5_readProduct 1 = .ok (.iload_n 1, 1) := by decide +kernel
theorem dX5_readProduct_2 : decode cX5_readProduct 2 = .ok (.invokevirtual 88, 3) := by decide +kernel
theorem dX5_readProduct_5 : decode cX5_readProduct 5 = .ok (.ifCond .ne 5, 3) := by decide +kernel
theorem dX5_readProduct_8 : decode cX5_readProduct 8 = .ok (.iconst 0, 1) := by decide +kernel
theorem dX5_readProduct_9 : decode cX5_readProduct 9 = .ok (.ireturn, 1) := by decide +kernel
theorem dX5_readProduct_10 : decode cX5_readProduct 10 = .ok (.aload_n 0, 1) := by decide +kernel
theorem dX5_readProduct_11 : decode cX5_readProduct 11 = .ok (.getfield 15, 3) := by decide +kernel
theorem dX5_readProduct_14 : decode cX5_readProduct 14 = .ok (.getfield 25, 3) := by decide +kernel
theorem dX5_readProduct_17 : decode cX5_readProduct 17 = .ok (.aload_n 0, 1) := by decide +kernel
theorem dX5_readProduct_18 : decode cX5_readProduct 18 = .ok (.getfield 15, 3) := by decide +kernel
theorem dX5_readProduct_21 : decode cX5_readProduct 21 = .ok (.getfield 59, 3) := by decide +kernel
theorem dX5_readProduct_24 : decode cX5_readProduct 24 = .ok (.if_icmp .ge 60, 3) := by decide +kernel
theorem dX5_readProduct_27 : decode cX5_readProduct 27 = .ok (.aload_n 0, 1) := by decide +kernel
theorem dX5_readProduct_28 : decode cX5_readProduct 28 = .ok (.getfield 15, 3) := by decide +kernel
theorem dX5_readProduct_31 : decode cX5_readProduct 31 = .ok (.invokevirtual 19, 3) := by decide +kernel
theorem dX5_readProduct_34 : decode cX5_readProduct 34 = .ok (.invokestatic 91, 3) := by decide +kernel
theorem dX5_readProduct_37 : decode cX5_readProduct 37 = .ok (.ifCond .eq 47, 3) := by decide +kernel
theorem dX5_readProduct_40 : decode cX5_readProduct 40 = .ok (.aload_n 0, 1) := by decide +kernel
theorem dX5_readProduct_41 : decode cX5_readProduct 41 = .ok (.getfield 15, 3) := by decide +kernel
theorem dX5_readProduct_44 : decode cX5_readProduct 44 = .ok (.invokevirtual 19, 3) := by decide +kernel
theorem dX5_readProduct_47 : decode cX5_readProduct 47 = .ok (.istore_n 2, 1) := by decide +kernel
theorem dX5_readProduct_48 : decode cX5_readProduct 48 = .ok (.aload_n 0, 1) := by decide +kernel
theorem dX5_readProduct_49 : decode cX5_readProduct 49 = .ok (.getfield 15, 3) := by decide +kernel
theorem dX5_readProduct_52 : decode cX5_readProduct 52 = .ok (.dup, 1) := by decide +kernel
theorem dX5_readProduct_53 : decode cX5_readProduct 53 = .ok (.getfield 25, 3) := by decide +kernel
theorem dX5_readProduct_56 : decode cX5_readProduct 56 = .ok (.iconst 1, 1) := by decide +kernel
theorem dX5_readProduct_57 : decode cX5_readProduct 57 = .ok (.iadd, 1) := by decide +kernel
theorem dX5_readProduct_58 : decode cX5_readProduct 58 = .ok (.putfield 25, 3) := by decide +kernel
theorem dX5_readProduct_61 : decode cX5_readProduct 61 = .ok (.aload_n 0, 1) := by decide +kernel
theorem dX5_readProduct_62 : decode cX5_readProduct 62 = .ok (.iload_n 1, 1) := by decide +kernel
theorem dX5_readProduct_63 : decode cX5_readProduct 63 = .ok (.invokevirtual 88, 3) := by decide +kernel
theorem dX5_readProduct_66 : decode cX5_readProduct 66 = .ok (.ifCond .ne 5, 3) := by decide +kernel
theorem dX5_readProduct_69 : decode cX5_readProduct 69 = .ok (.iconst 0, 1) := by decide +kernel
theorem dX5_readProduct_70 : decode cX5_readProduct 70 = .ok (.ireturn, 1) := by decide +kernel
theorem dX5_readProduct_71 : decode cX5_readProduct 71 = .ok (.aload_n 0, 1) := by decide +kernel
theorem dX5_readProduct_72 : decode cX5_readProduct 72 = .ok (.getfield 9, 3) := by decide +kernel
theorem dX5_readProduct_75 : decode cX5_readProduct 75 = .ok (.iload_n 2, 1) := by decide +kernel
theorem dX5_readProduct_76 : decode cX5_readProduct 76 = .ok (.iconst 0, 1) := by decide +kernel
theorem dX5_readProduct_77 : decode cX5_readProduct 77 = .ok (.invokevirtual 39, 3) := by decide +kernel
theorem dX5_readProduct_80 : decode cX5_readProduct 80 = .ok (.pop, 1) := by decide +kernel
theorem dX5_readProduct_81 : decode cX5_readProduct 81 = .ok (.goto (-71), 3) := by decide +kernel
theorem dX5_readProduct_84 : decode cX5_readProduct 84 = .ok (.iconst 1, 1) := by decide +kernel
theorem dX5_readProduct_85 : decode cX5_readProduct 85 = .ok (.ireturn, 1) := by decide +kernel
theorem dX5_joinsFactors_0 : decode cX5_joinsFactors 0 = .ok (.iload_n 0, 1) := by decide +kernel
theorem dX5_joinsFactors_1 : decode cX5_joinsFactors 1 = .ok (.bipush 42, 2) := by decide +kernel
theorem dX5_joinsFactors_3 : decode cX5_joinsFactors 3 = .ok (.if_icmp .eq 15, 3) := by decide +kernel
theorem dX5_joinsFactors_6 : decode cX5_joinsFactors 6 = .ok (.iload_n 0, 1) := by decide +kernel
theorem dX5_joinsFactors_7 : decode cX5_joinsFactors 7 = .ok (.bipush 47, 2) := by decide +kernel
theorem dX5_joinsFactors_9 : decode cX5_joinsFactors 9 = .ok (.if_icmp .eq 9, 3) := by decide +kernel
theorem dX5_joinsFactors_12 : decode cX5_joinsFactors 12 = .ok (.iload_n 0, 1) := by decide +kernel
theorem dX5_joinsFactors_13 : decode cX5_joinsFactors 13 = .ok (.bipush 37, 2) := by decide +kernel
theorem dX5_joinsFactors_15 : decode cX5_joinsFactors 15 = .ok (.if_icmp .ne 7, 3) := by decide +kernel
theorem dX5_joinsFactors_18 : decode cX5_joinsFactors 18 = .ok (.iconst 1, 1) := by decide +kernel
theorem dX5_joinsFactors_19 : decode cX5_joinsFactors 19 = .ok (.goto 4, 3) := by decide +kernel
theorem dX5_joinsFactors_22 : decode cX5_joinsFactors 22 = .ok (.iconst 0, 1) := by decide +kernel
theorem dX5_joinsFactors_23 : decode cX5_joinsFactors 23 = .ok (.ireturn, 1) := by decide +kernel
theorem dX5_readFactor_0 : decode cX5_readFactor 0 = .ok (.aload_n 0, 1) := by decide +kernel
theorem dX5_readFactor_1 : decode cX5_readFactor 1 = .ok (.getfield 15, 3) := by decide +kernel
theorem dX5_readFactor_4 : decode cX5_readFactor 4 = .ok (.invokevirtual 19, 3) := by decide +kernel
theorem dX5_readFactor_7 : decode cX5_readFactor 7 = .ok (.istore_n 2, 1) := by decide +kernel
theorem dX5_readFactor_8 : decode cX5_readFactor 8 = .ok (.iload_n 2, 1) := by decide +kernel
theorem dX5_readFactor_9 : decode cX5_readFactor 9 = .ok (.bipush 91, 2) := by decide +kernel
theorem dX5_readFactor_11 : decode cX5_readFactor 11 = .ok (.if_icmp .ne 39, 3) := by decide +kernel
theorem dX5_readFactor_14 : decode cX5_readFactor 14 = .ok (.aload_n 0, 1) := by decide +kernel
theorem dX5_readFactor_15 : decode cX5_readFactor 15 = .ok (.iload_n 1, 1) := by decide +kernel
theorem dX5_readFactor_16 : decode cX5_readFactor 16 = .ok (.invokevirtual 71, 3) := by decide +kernel
theorem dX5_readFactor_19 : decode cX5_readFactor 19 = .ok (.ifCond .eq 29, 3) := by decide +kernel
theorem dX5_readFactor_22 : decode cX5_readFactor 22 = .ok (.aload_n 0, 1) := by decide +kernel
theorem dX5_readFactor_23 : decode cX5_readFactor 23 = .ok (.iload_n 1, 1) := by decide +kernel
theorem dX5_readFactor_24 : decode cX5_readFactor 24 = .ok (.iconst 1, 1) := by decide +kernel
theorem dX5_readFactor_25 : decode cX5_readFactor 25 = .ok (.iadd, 1) := by decide +kernel
theorem dX5_readFactor_26 : decode cX5_readFactor 26 = .ok (.invokevirtual 35, 3) := by decide +kernel
theorem dX5_readFactor_29 : decode cX5_readFactor 29 = .ok (.ifCond .eq 19, 3) := by decide +kernel
theorem dX5_readFactor_32 : decode cX5_readFactor 32 = .ok (.aload_n 0, 1) := by decide +kernel
theorem dX5_readFactor_33 : decode cX5_readFactor 33 = .ok (.getfield 15, 3) := by decide +kernel
theorem dX5_readFactor_36 : decode cX5_readFactor 36 = .ok (.bipush 93, 2) := by decide +kernel
theorem dX5_readFactor_38 : decode cX5_readFactor 38 = .ok (.invokevirtual 47, 3) := by decide +kernel
theorem dX5_readFactor_41 : decode cX5_readFactor 41 = .ok (.ifCond .eq 7, 3) := by decide +kernel
theorem dX5_readFactor_44 : decode cX5_readFactor 44 = .ok (.iconst 1, 1) := by decide +kernel
theorem dX5_readFactor_45 : decode cX5_readFactor 45 = .ok (.goto 4, 3) := by decide +kernel
theorem dX5_readFactor_48 : decode cX5_readFactor 48 = .ok (.iconst 0, 1) := by decide +kernel
theorem dX5_readFactor_49 : decode cX5_readFactor 49 = .ok (.ireturn, 1) := by decide +kernel
theorem dX5_readFactor_50 : decode cX5_readFactor 50 = .ok (.iload_n 2, 1) := by decide +kernel
theorem dX5_readFactor_51 : decode cX5_readFactor 51 = .ok (.invokestatic 94, 3) := by decide +kernel
theorem dX5_readFactor_54 : decode cX5_readFactor 54 = .ok (.ifCond .eq 31, 3) := by decide +kernel
theorem dX5_readFactor_57 : decode cX5_readFactor 57 = .ok (.aload_n 0, 1) := by decide +kernel
theorem dX5_readFactor_58 : decode cX5_readFactor 58 = .ok (.getfield 15, 3) := by decide +kernel
theorem dX5_readFactor_61 : decode cX5_readFactor 61 = .ok (.iconst 5, 1) := by decide +kernel
theorem dX5_readFactor_62 : decode cX5_readFactor 62 = .ok (.invokevirtual 97, 3) := by decide +kernel
theorem dX5_readFactor_65 : decode cX5_readFactor 65 = .ok (.istore_n 3, 1) := by decide +kernel
theorem dX5_readFactor_66 : decode cX5_readFactor 66 = .ok (.iload_n 3, 1) := by decide +kernel
theorem dX5_readFactor_67 : decode cX5_readFactor 67 = .ok (.ifCond .ge 5, 3) := by decide +kernel
theorem dX5_readFactor_70 : decode cX5_readFactor 70 = .ok (.iconst 0, 1) := by decide +kernel
theorem dX5_readFactor_71 : decode cX5_readFactor 71 = .ok (.ireturn, 1) := by decide +kernel
theorem dX5_readFactor_72 : decode cX5_readFactor 72 = .ok (.aload_n 0, 1) := by decide +kernel
theorem dX5_readFactor_73 : decode cX5_readFactor 73 = .ok (.getfield 9, 3) := by decide +kernel
theorem dX5_readFactor_76 : decode cX5_readFactor 76 = .ok (.bipush 35, 2) := by decide +kernel
theorem dX5_readFactor_78 : decode cX5_readFactor 78 = .ok (.iload_n 3, 1) := by decide +kernel
theorem dX5_readFactor_79 : decode cX5_readFactor 79 = .ok (.invokevirtual 39, 3) := by decide +kernel
theorem dX5_readFactor_82 : decode cX5_readFactor 82 = .ok (.pop, 1) := by decide +kernel
theorem dX5_readFactor_83 : decode cX5_readFactor 83 = .ok (.iconst 1, 1) := by decide +kernel
theorem dX5_readFactor_84 : decode cX5_readFactor 84 = .ok (.ireturn, 1) := by decide +kernel
theorem dX5_readFactor_85 : decode cX5_readFactor 85 = .ok (.iload_n 2, 1) := by decide +kernel
theorem dX5_readFactor_86 : decode cX5_readFactor 86 = .ok (.ifCond .ge 7, 3) := by decide +kernel
theorem dX5_readFactor_89 : decode cX5_readFactor 89 = .ok (.iconst (-1), 1) := by decide +kernel
theorem dX5_readFactor_90 : decode cX5_readFactor 90 = .ok (.goto 10, 3) := by decide +kernel
theorem dX5_readFactor_93 : decode cX5_readFactor 93 = .ok (.ldc 101, 2) := by decide +kernel
theorem dX5_readFactor_95 : decode cX5_readFactor 95 = .ok (.iload_n 2, 1) := by decide +kernel
theorem dX5_readFactor_96 : decode cX5_readFactor 96 = .ok (.i2c, 1) := by decide +kernel
theorem dX5_readFactor_97 : decode cX5_readFactor 97 = .ok (.invokevirtual 103, 3) := by decide +kernel
theorem dX5_readFactor_100 : decode cX5_readFactor 100 = .ok (.istore_n 3, 1) := by decide +kernel
theorem dX5_readFactor_101 : decode cX5_readFactor 101 = .ok (.iload_n 3, 1) := by decide +kernel
theorem dX5_readFactor_102 : decode cX5_readFactor 102 = .ok (.ifCond .ge 11, 3) := by decide +kernel
theorem dX5_readFactor_105 : decode cX5_readFactor 105 = .ok (.aload_n 0, 1) := by decide +kernel
theorem dX5_readFactor_106 : decode cX5_readFactor 106 = .ok (.getfield 15, 3) := by decide +kernel
theorem dX5_readFactor_109 : decode cX5_readFactor 109 = .ok (.invokevirtual 81, 3) := by decide +kernel
theorem dX5_readFactor_112 : decode cX5_readFactor 112 = .ok (.ireturn, 1) := by decide +kernel
theorem dX5_readFactor_113 : decode cX5_readFactor 113 = .ok (.aload_n 0, 1) := by decide +kernel
theorem dX5_readFactor_114 : decode cX5_readFactor 114 = .ok (.getfield 15, 3) := by decide +kernel
theorem dX5_readFactor_117 : decode cX5_readFactor 117 = .ok (.dup, 1) := by decide +kernel
theorem dX5_readFactor_118 : decode cX5_readFactor 118 = .ok (.getfield 25, 3) := by decide +kernel
theorem dX5_readFactor_121 : decode cX5_readFactor 121 = .ok (.iconst 1, 1) := by decide +kernel
theorem dX5_readFactor_122 : decode cX5_readFactor 122 = .ok (.iadd, 1) := by decide +kernel
theorem dX5_readFactor_123 : decode cX5_readFactor 123 = .ok (.putfield 25, 3) := by decide +kernel
theorem dX5_readFactor_126 : decode cX5_readFactor 126 = .ok (.aload_n 0, 1) := by decide +kernel
theorem dX5_readFactor_127 : decode cX5_readFactor 127 = .ok (.getfield 9, 3) := by decide +kernel
theorem dX5_readFactor_130 : decode cX5_readFactor 130 = .ok (.bipush 64, 2) := by decide +kernel
theorem dX5_readFactor_132 : decode cX5_readFactor 132 = .ok (.iload_n 3, 1) := by decide +kernel
theorem dX5_readFactor_133 : decode cX5_readFactor 133 = .ok (.invokevirtual 39, 3) := by decide +kernel
theorem dX5_readFactor_136 : decode cX5_readFactor 136 = .ok (.pop, 1) := by decide +kernel
theorem dX5_readFactor_137 : decode cX5_readFactor 137 = .ok (.iconst 1, 1) := by decide +kernel
theorem dX5_readFactor_138 : decode cX5_readFactor 138 = .ok (.ireturn, 1) := by decide +kernel
theorem dX6_init_0 : decode cX6_init 0 = .ok (.aload_n 0, 1) := by decide +kernel
theorem dX6_init_1 : decode cX6_init 1 = .ok (.invokespecial 3, 3) := by decide +kernel
theorem dX6_init_4 : decode cX6_init 4 = .ok (.aload_n 0, 1) := by decide +kernel
theorem dX6_init_5 : decode cX6_init 5 = .ok (.aload_n 1, 1) := by decide +kernel
theorem dX6_init_6 : decode cX6_init 6 = .ok (.putfield 9, 3) := by decide +kernel
theorem dX6_init_9 : decode cX6_init 9 = .ok (.return_, 1) := by decide +kernel
theorem dX6_readLines_0 : decode cX6_readLines 0 = .ok (.iconst 0, 1) := by decide +kernel
theorem dX6_readLines_1 : decode cX6_readLines 1 = .ok (.istore_n 2, 1) := by decide +kernel
theorem dX6_readLines_2 : decode cX6_readLines 2 = .ok (.iload_n 2, 1) := by decide +kernel
theorem dX6_readLines_3 : decode cX6_readLines 3 = .ok (.iload_n 1, 1) := by decide +kernel
theorem dX6_readLines_4 : decode cX6_readLines 4 = .ok (.if_icmp .gt 126, 3) := by decide +kernel
theorem dX6_readLines_7 : decode cX6_readLines 7 = .ok (.iload_n 2, 1) := by decide +kernel
theorem dX6_readLines_8 : decode cX6_readLines 8 = .ok (.ifCond .le 42, 3) := by decide +kernel
theorem dX6_readLines_11 : decode cX6_readLines 11 = .ok (.aload_n 0, 1) := by decide +kernel
theorem dX6_readLines_12 : decode cX6_readLines 12 = .ok (.getfield 9, 3) := by decide +kernel
theorem dX6_readLines_15 : decode cX6_readLines 15 = .ok (.getfield 15, 3) := by decide +kernel
theorem dX6_readLines_18 : decode cX6_readLines 18 = .ok (.aload_n 0, 1) := by decide +kernel
theorem dX6_readLines_19 : decode cX6_readLines 19 = .ok (.getfield 9, 3) := by decide +kernel
theorem dX6_readLines_22 : decode cX6_readLines 22 = .ok (.getfield 21, 3) := by decide +kernel
theorem dX6_readLines_25 : decode cX6_readLines 25 = .ok (.if_icmp .lt 5, 3) := by decide +kernel
theorem dX6_readLines_28 : decode cX6_readLines 28 = .ok (.iload_n 2, 1) := by decide +kernel
theorem dX6_readLines_29 : decode cX6_readLines 29 = .ok (.ireturn, 1) := by decide +kernel
theorem dX6_readLines_30 : decode cX6_readLines 30 = .ok (.aload_n 0, 1) := by decide +kernel
theorem dX6_readLines_31 : decode cX6_readLines 31 = .ok (.getfield 9, 3) := by decide +kernel
theorem dX6_readLines_34 : decode cX6_readLines 34 = .ok (.bipush 59, 2) := by decide +kernel
theorem dX6_readLines_36 : decode cX6_readLines 36 = .ok (.invokevirtual 24, 3) := by decide +kernel
theorem dX6_readLines_39 : decode cX6_readLines 39 = .ok (.ifCond .ne 11, 3) := by decide +kernel
theorem dX6_readLines_42 : decode cX6_readLines 42 = .ok (.aload_n 0, 1) := by decide +kernel
theorem dX6_readLines_43 : decode cX6_readLines 43 = .ok (.getfield 9, 3) := by decide +kernel
theorem dX6_readLines_46 : decode cX6_readLines 46 = .ok (.getfield 28, 3) := by decide +kernel
theorem dX6_readLines_49 : decode cX6_readLines 49 = .ok (.ireturn, 1) := by decide +kernel
theorem dX6_readLines_50 : decode cX6_readLines 50 = .ok (.aload_n 0, 1) := by decide +kernel
theorem dX6_readLines_51 : decode cX6_readLines 51 = .ok (.aload_n 0, 1) := by decide +kernel
theorem dX6_readLines_52 : decode cX6_readLines 52 = .ok (.getfield 9, 3) := by decide +kernel
theorem dX6_readLines_55 : decode cX6_readLines 55 = .ok (.invokevirtual 31, 3) := by decide +kernel
theorem dX6_readLines_58 : decode cX6_readLines 58 = .ok (.invokevirtual 35, 3) := by decide +kernel
theorem dX6_readLines_61 : decode cX6_readLines 61 = .ok (.ifCond .ne 19, 3) := by decide +kernel
theorem dX6_readLines_64 : decode cX6_readLines 64 = .ok (.aload_n 0, 1) := by decide +kernel
theorem dX6_readLines_65 : decode cX6_readLines 65 = .ok (.getfield 9, 3) := by decide +kernel
theorem dX6_readLines_68 : decode cX6_readLines 68 = .ok (.invokevirtual 38, 3) := by decide +kernel
theorem dX6_readLines_71 : decode cX6_readLines 71 = .ok (.pop, 1) := by decide +kernel
theorem dX6_readLines_72 : decode cX6_readLines 72 = .ok (.aload_n 0, 1) := by decide +kernel
theorem dX6_readLines_73 : decode cX6_readLines 73 = .ok (.getfield 9, 3) := by decide +kernel
theorem dX6_readLines_76 : decode cX6_readLines 76 = .ok (.getfield 28, 3) := by decide +kernel
theorem dX6_readLines_79 : decode cX6_readLines 79 = .ok (.ireturn, 1) := by decide +kernel
theorem dX6_readLines_80 : decode cX6_readLines 80 = .ok (.iload_n 2, 1) := by decide +kernel
theorem dX6_readLines_81 : decode cX6_readLines 81 = .ok (.iload_n 1, 1) := by decide +kernel
theorem dX6_readLines_82 : decode cX6_readLines 82 = .ok (.if_icmp .ne 27, 3) := by decide +kernel
theorem dX6_readLines_85 : decode cX6_readLines 85 = .ok (.aload_n 0, 1) := by decide +kernel
theorem dX6_readLines_86 : decode cX6_readLines 86 = .ok (.getfield 9, 3) := by decide +kernel
theorem dX6_readLines_89 : decode cX6_readLines 89 = .ok (.iconst 4, 1) := by decide +kernel
theorem dX6_readLines_90 : decode cX6_readLines 90 = .ok (.aload_n 0, 1) := by decide +kernel
theorem dX6_readLines_91 : decode cX6_readLines 91 = .ok (.getfield 9, 3) := by decide +kernel
theorem dX6_readLines_94 : decode cX6_readLines 94 = .ok (.getfield 15, 3) := by decide +kernel
theorem dX6_readLines_97 : decode cX6_readLines 97 = .ok (.invokevirtual 42, 3) := by decide +kernel
theorem dX6_readLines_100 : decode cX6_readLines 100 = .ok (.pop, 1) := by decide +kernel
theorem dX6_readLines_101 : decode cX6_readLines 101 = .ok (.aload_n 0, 1) := by decide +kernel
theorem dX6_readLines_102 : decode cX6_readLines 102 = .ok (.getfield 9, 3) := by decide +kernel
theorem dX6_readLines_105 : decode cX6_readLines 105 = .ok (.getfield 28, 3) := by decide +kernel
theorem dX6_readLines_108 : decode cX6_readLines 108 = .ok (.ireturn, 1) := by decide +kernel
theorem dX6_readLines_109 : decode cX6_readLines 109 = .ok (.aload_n 0, 1) := by decide +kernel
theorem dX6_readLines_110 : decode cX6_readLines 110 = .ok (.invokevirtual 46, 3) := by decide +kernel
theorem dX6_readLines_113 : decode cX6_readLines 113 = .ok (.ifCond .ne 11, 3) := by decide +kernel
theorem dX6_readLines_116 : decode cX6_readLines 116 = .ok (.aload_n 0, 1) := by decide +kernel
theorem dX6_readLines_117 : decode cX6_readLines 117 = .ok (.getfield 9, 3) := by decide +kernel
theorem dX6_readLines_120 : decode cX6_readLines 120 = .ok (.getfield 28, 3) := by decide +kernel
theorem dX6_readLines_123 : decode cX6_readLines 123 = .ok (.ireturn, 1) := by decide +kernel
theorem dX6_readLines_124 : decode cX6_readLines 124 = .ok (.iinc 2 1, 3) := by decide +kernel
theorem dX6_readLines_127 : decode cX6_readLines 127 = .ok (.goto (-125), 3) := by decide +kernel
theorem dX6_readLines_130 : decode cX6_readLines 130 = .ok (.aload_n 0, 1) := by decide +kernel
theorem dX6_readLines_131 : decode cX6_readLines 131 = .ok (.getfield 9, 3) := by decide +kernel
theorem dX6_readLines_134 : decode cX6_readLines 134 = .ok (.getfield 28, 3) := by decide +kernel
theorem dX6_readLines_137 : decode cX6_readLines 137 = .ok (.ireturn, 1) := by decide +kernel
theorem dX7_init_0 : decode cX7_init 0 = .ok (.aload_n 0, 1) := by decide +kernel
theorem dX7_init_1 : decode cX7_init 1 = .ok (.invokespecial 3, 3) := by decide +kernel
theorem dX7_init_4 : decode cX7_init 4 = .ok (.aload_n 0, 1) := by decide +kernel
theorem dX7_init_5 : decode cX7_init 5 = .ok (.new 9, 3) := by decide +kernel
theorem dX7_init_8 : decode cX7_init 8 = .ok (.dup, 1) := by decide +kernel
theorem dX7_init_9 : decode cX7_init 9 = .ok (.invokespecial 11, 3) := by decide +kernel
theorem dX7_init_12 : decode cX7_init 12 = .ok (.putfield 12, 3) := by decide +kernel
theorem dX7_init_15 : decode cX7_init 15 = .ok (.aload_n 0, 1) := by decide +kernel
theorem dX7_init_16 : decode cX7_init 16 = .ok (.iconst 0, 1) := by decide +kernel
theorem dX7_init_17 : decode cX7_init 17 = .ok (.putfield 18, 3) := by decide +kernel
theorem dX7_init_20 : decode cX7_init 20 = .ok (.aload_n 0, 1) := by decide +kernel
theorem dX7_init_21 : decode cX7_init 21 = .ok (.iconst 0, 1) := by decide +kernel
theorem dX7_init_22 : decode cX7_init 22 = .ok (.putfield 22, 3) := by decide +kernel
theorem dX7_init_25 : decode cX7_init 25 = .ok (.return_, 1) := by decide +kernel
theorem dX7_pass_0 : decode cX7_pass 0 = .ok (.aload_n 0, 1) := by decide +kernel
theorem dX7_pass_1 : decode cX7_pass 1 = .ok (.iconst 0, 1) := by decide +kernel
theorem dX7_pass_2 : decode cX7_pass 2 = .ok (.putfield 18, 3) := by decide +kernel
theorem dX7_pass_5 : decode cX7_pass 5 = .ok (.aload_n 0, 1) := by decide +kernel
theorem dX7_pass_6 : decode cX7_pass 6 = .ok (.iconst 0, 1) := by decide +kernel
theorem dX7_pass_7 : decode cX7_pass 7 = .ok (.putfield 22, 3) := by decide +kernel
theorem dX7_pass_10 : decode cX7_pass 10 = .ok (.iconst 0, 1) := by decide +kernel
theorem dX7_pass_11 : decode cX7_pass 11 = .ok (.istore 4, 2) := by decide +kernel
theorem dX7_pass_13 : decode cX7_pass 13 = .ok (.iload 4, 2) := by decide +kernel
theorem dX7_pass_15 : decode cX7_pass 15 = .ok (.iload_n 3, 1) := by decide +kernel
theorem dX7_pass_16 : decode cX7_pass 16 = .ok (.if_icmp .ge 68, 3) := by decide +kernel
theorem dX7_pass_19 : decode cX7_pass 19 = .ok (.aload_n 1, 1) := by decide +kernel
theorem dX7_pass_20 : decode cX7_pass 20 = .ok (.getfield 25, 3) := by decide +kernel
theorem dX7_pass_23 : decode cX7_pass 23 = .ok (.sipush 9999, 3) := by decide +kernel
theorem dX7_pass_26 : decode cX7_pass 26 = .ok (.if_icmp .ge 58, 3) := by decide +kernel
theorem dX7_pass_29 : decode cX7_pass 29 = .ok (.iconst 0, 1) := by decide +kernel
theorem dX7_pass_30 : decode cX7_pass 30 = .ok (.istore 5, 2) := by decide +kernel
theorem dX7_pass_32 : decode cX7_pass 32 = .ok (.iload 5, 2) := by decide +kernel
theorem dX7_pass_34 : decode cX7_pass 34 = .ok (.bipush 12, 2) := by decide +kernel
theorem dX7_pass_36 : decode cX7_pass 36 = .ok (.if_icmp .ge 26, 3) := by decide +kernel
theorem dX7_pass_39 : decode cX7_pass 39 = .ok (.aload_n 1, 1) := by decide +kernel
theorem dX7_pass_40 : decode cX7_pass 40 = .ok (.iload 5, 2) := by decide +kernel
theorem dX7_pass_42 : decode cX7_pass 42 = .ok (.invokevirtual 28, 3) := by decide +kernel
theorem dX7_pass_45 : decode cX7_pass 45 = .ok (.ifCond .eq 11, 3) := by decide +kernel
theorem dX7_pass_48 : decode cX7_pass 48 = .ok (.aload_n 0, 1) := by decide +kernel
theorem dX7_pass_49 : decode cX7_pass 49 = .ok (.aload_n 1, 1) := by decide +kernel
theorem dX7_pass_50 : decode cX7_pass 50 = .ok (.aload_n 2, 1) := by decide +kernel
theorem dX7_pass_51 : decode cX7_pass 51 = .ok (.iload 5, 2) := by decide +kernel
theorem dX7_pass_53 : decode cX7_pass 53 = .ok (.invokevirtual 32, 3) := by decide +kernel
theorem dX7_pass_56 : decode cX7_pass 56 = .ok (.iinc 5 1, 3) := by decide +kernel
theorem dX7_pass_59 : decode cX7_pass 59 = .ok (.goto (-27), 3) := by decide +kernel
theorem dX7_pass_62 : decode cX7_pass 62 = .ok (.aload_n 0, 1) := by decide +kernel
theorem dX7_pass_63 : decode cX7_pass 63 = .ok (.aload_n 1, 1) := by decide +kernel
theorem dX7_pass_64 : decode cX7_pass 64 = .ok (.aload_n 2, 1) := by decide +kernel
theorem dX7_pass_65 : decode cX7_pass 65 = .ok (.invokevirtual 36, 3) := by decide +kernel
theorem dX7_pass_68 : decode cX7_pass 68 = .ok (.aload_n 1, 1) := by decide +kernel
theorem dX7_pass_69 : decode cX7_pass 69 = .ok (.dup, 1) := by decide +kernel
theorem dX7_pass_70 : decode cX7_pass 70 = .ok (.getfield 25, 3) := by decide +kernel
theorem dX7_pass_73 : decode cX7_pass 73 = .ok (.iconst 1, 1) := by decide +kernel
theorem dX7_pass_74 : decode cX7_pass 74 = .ok (.iadd, 1) := by decide +kernel
theorem dX7_pass_75 : decode cX7_pass 75 = .ok (.putfield 25, 3) := by decide +kernel
theorem dX7_pass_78 : decode cX7_pass 78 = .ok (.iinc 4 1, 3) := by decide +kernel
theorem dX7_pass_81 : decode cX7_pass 81 = .ok (.goto (-68), 3) := by decide +kernel
theorem dX7_pass_84 : decode cX7_pass 84 = .ok (.return_, 1) := by decide +kernel
theorem dX7_goOut_0 : decode cX7_goOut 0 = .ok (.aload_n 2, 1) := by decide +kernel
theorem dX7_goOut_1 : decode cX7_goOut 1 = .ok (.iload_n 3, 1) := by decide +kernel
theorem dX7_goOut_2 : decode cX7_goOut 2 = .ok (.aload_n 1, 1) := by decide +kernel
theorem dX7_goOut_3 : decode cX7_goOut 3 = .ok (.iload_n 3, 1) := by decide +kernel
theorem dX7_goOut_4 : decode cX7_goOut 4 = .ok (.invokevirtual 40, 3) := by decide +kernel
theorem dX7_goOut_7 : decode cX7_goOut 7 = .ok (.aload_n 1, 1) := by decide +kernel
theorem dX7_goOut_8 : decode cX7_goOut 8 = .ok (.iload_n 3, 1) := by decide +kernel
theorem dX7_goOut_9 : decode cX7_goOut 9 = .ok (.invokevirtual 44, 3) := by decide +kernel
theorem dX7_goOut_12 : decode cX7_goOut 12 = .ok (.invokestatic 47, 3) := by decide +kernel
theorem dX7_goOut_15 : decode cX7_goOut 15 = .ok (.invokevirtual 52, 3) := by decide +kernel
theorem dX7_goOut_18 : decode cX7_goOut 18 = .ok (.aload_n 2, 1) := by decide +kernel
theorem dX7_goOut_19 : decode cX7_goOut 19 = .ok (.iconst 0, 1) := by decide +kernel
theorem dX7_goOut_20 : decode cX7_goOut 20 = .ok (.iconst 0, 1) := by decide +kernel
theorem dX7_goOut_21 : decode cX7_goOut 21 = .ok (.iconst 0, 1) := by decide +kernel
theorem dX7_goOut_22 : decode cX7_goOut 22 = .ok (.invokevirtual 58, 3) := by decide +kernel
theorem dX7_goOut_25 : decode cX7_goOut 25 = .ok (.aload_n 2, 1) := by decide +kernel
theorem dX7_goOut_26 : decode cX7_goOut 26 = .ok (.iconst 0, 1) := by decide +kernel
theorem dX7_goOut_27 : decode cX7_goOut 27 = .ok (.iconst 0, 1) := by decide +kernel
theorem dX7_goOut_28 : decode cX7_goOut 28 = .ok (.invokevirtual 61, 3) := by decide +kernel
theorem dX7_goOut_31 : decode cX7_goOut 31 = .ok (.aload_n 2, 1) := by decide +kernel
theorem dX7_goOut_32 : decode cX7_goOut 32 = .ok (.aload_n 1, 1) := by decide +kernel
theorem dX7_goOut_33 : decode cX7_goOut 33 = .ok (.getfield 25, 3) := by decide +kernel
theorem dX7_goOut_36 : decode cX7_goOut 36 = .ok (.bipush 100, 2) := by decide +kernel
theorem dX7_goOut_38 : decode cX7_goOut 38 = .ok (.irem, 1) := by decide +kernel
theorem dX7_goOut_39 : decode cX7_goOut 39 = .ok (.aload_n 1, 1) := by decide +kernel
theorem dX7_goOut_40 : decode cX7_goOut 40 = .ok (.invokevirtual 65, 3) := by decide +kernel
theorem dX7_goOut_43 : decode cX7_goOut 43 = .ok (.invokevirtual 69, 3) := by decide +kernel
theorem dX7_goOut_46 : decode cX7_goOut 46 = .ok (.aload_n 2, 1) := by decide +kernel
theorem dX7_goOut_47 : decode cX7_goOut 47 = .ok (.bipush 120, 2) := by decide +kernel
theorem dX7_goOut_49 : decode cX7_goOut 49 = .ok (.invokevirtual 72, 3) := by decide +kernel
theorem dX7_goOut_52 : decode cX7_goOut 52 = .ok (.ifCond .eq 4, 3) := by decide +kernel
theorem dX7_goOut_55 : decode cX7_goOut 55 = .ok (.return_, 1) := by decide +kernel
theorem dX7_goOut_56 : decode cX7_goOut 56 = .ok (.aload_n 1, 1) := by decide +kernel
theorem dX7_goOut_57 : decode cX7_goOut 57 = .ok (.aload_n 2, 1) := by decide +kernel
theorem dX7_goOut_58 : decode cX7_goOut 58 = .ok (.iload_n 3, 1) := by decide +kernel
theorem dX7_goOut_59 : decode cX7_goOut 59 = .ok (.invokestatic 75, 3) := by decide +kernel
theorem dX7_goOut_62 : decode cX7_goOut 62 = .ok (.istore 4, 2) := by decide +kernel
theorem dX7_goOut_64 : decode cX7_goOut 64 = .ok (.iload 4, 2) := by decide +kernel
theorem dX7_goOut_66 : decode cX7_goOut 66 = .ok (.ifCond .lt 12, 3) := by decide +kernel
theorem dX7_goOut_69 : decode cX7_goOut 69 = .ok (.aload_n 0, 1) := by decide +kernel
theorem dX7_goOut_70 : decode cX7_goOut 70 = .ok (.aload_n 1, 1) := by decide +kernel
theorem dX7_goOut_71 : decode cX7_goOut 71 = .ok (.aload_n 2, 1) := by decide +kernel
theorem dX7_goOut_72 : decode cX7_goOut 72 = .ok (.iload_n 3, 1) := by decide +kernel
theorem dX7_goOut_73 : decode cX7_goOut 73 = .ok (.iload 4, 2) := by decide +kernel
theorem dX7_goOut_75 : decode cX7_goOut 75 = .ok (.invokevirtual 79, 3) := by decide +kernel
theorem dX7_goOut_78 : decode cX7_goOut 78 = .ok (.return_, 1) := by decide +kernel
theorem dX7_doorTried_0 : decode cX7_doorTried 0 = .ok (.bipush (-2), 2) := by decide +kernel
theorem dX7_doorTried_2 : decode cX7_doorTried 2 = .ok (.istore_n 3, 1) := by decide +kernel
theorem dX7_doorTried_3 : decode cX7_doorTried 3 = .ok (.iconst 0, 1) := by decide +kernel
theorem dX7_doorTried_4 : decode cX7_doorTried 4 = .ok (.istore 4, 2) := by decide +kernel
theorem dX7_doorTried_6 : decode cX7_doorTried 6 = .ok (.iconst 0, 1) := by decide +kernel
theorem dX7_doorTried_7 : decode cX7_doorTried 7 = .ok (.istore 5, 2) := by decide +kernel
theorem dX7_doorTried_9 : decode cX7_doorTried 9 = .ok (.iload 5, 2) := by decide +kernel
theorem dX7_doorTried_11 : decode cX7_doorTried 11 = .ok (.bipush 16, 2) := by decide +kernel
theorem dX7_doorTried_13 : decode cX7_doorTried 13 = .ok (.if_icmp .ge 51, 3) := by decide +kernel
theorem dX7_doorTried_16 : decode cX7_doorTried 16 = .ok (.aload_n 0, 1) := by decide +kernel
theorem dX7_doorTried_17 : decode cX7_doorTried 17 = .ok (.iload 5, 2) := by decide +kernel
theorem dX7_doorTried_19 : decode cX7_doorTried 19 = .ok (.invokevirtual 83, 3) := by decide +kernel
theorem dX7_doorTried_22 : decode cX7_doorTried 22 = .ok (.ifCond .eq 36, 3) := by decide +kernel
theorem dX7_doorTried_25 : decode cX7_doorTried 25 = .ok (.aload_n 0, 1) := by decide +kernel
theorem dX7_doorTried_26 : decode cX7_doorTried 26 = .ok (.aload_n 1, 1) := by decide +kernel
theorem dX7_doorTried_27 : decode cX7_doorTried 27 = .ok (.iload_n 2, 1) := by decide +kernel
theorem dX7_doorTried_28 : decode cX7_doorTried 28 = .ok (.iload 5, 2) := by decide +kernel
theorem dX7_doorTried_30 : decode cX7_doorTried 30 = .ok (.invokestatic 86, 3) := by decide +kernel
theorem dX7_doorTried_33 : decode cX7_doorTried 33 = .ok (.aload_n 1, 1) := by decide +kernel
theorem dX7_doorTried_34 : decode cX7_doorTried 34 = .ok (.bipush 101, 2) := by decide +kernel
theorem dX7_doorTried_36 : decode cX7_doorTried 36 = .ok (.sipush 9999, 3) := by decide +kernel
theorem dX7_doorTried_39 : decode cX7_doorTried 39 = .ok (.invokevirtual 89, 3) := by decide +kernel
theorem dX7_doorTried_42 : decode cX7_doorTried 42 = .ok (.istore 6, 2) := by decide +kernel
theorem dX7_doorTried_44 : decode cX7_doorTried 44 = .ok (.iload 6, 2) := by decide +kernel
theorem dX7_doorTried_46 : decode cX7_doorTried 46 = .ok (.iload 4, 2) := by decide +kernel
theorem dX7_doorTried_48 : decode cX7_doorTried 48 = .ok (.if_icmp .le 10, 3) := by decide +kernel
theorem dX7_doorTried_51 : decode cX7_doorTried 51 = .ok (.iload 6, 2) := by decide +kernel
theorem dX7_doorTried_53 : decode cX7_doorTried 53 = .ok (.istore 4, 2) := by decide +kernel
theorem dX7_doorTried_55 : decode cX7_doorTried 55 = .ok (.iload 5, 2) := by decide +kernel
theorem dX7_doorTried_57 : decode cX7_doorTried 57 = .ok (.istore_n 3, 1) := by decide +kernel
theorem dX7_doorTried_58 : decode cX7_doorTried 58 = .ok (.iinc 5 1, 3) := by decide +kernel
theorem dX7_doorTried_61 : decode cX7_doorTried 61 = .ok (.goto (-52), 3) := by decide +kernel
theorem dX7_doorTried_64 : decode cX7_doorTried 64 = .ok (.iload_n 3, 1) := by decide +kernel
theorem dX7_doorTried_65 : decode cX7_doorTried 65 = .ok (.ireturn, 1) := by decide +kernel
theorem dX7_meanDoorFor_0 : decode cX7_meanDoorFor 0 = .ok (.aload_n 0, 1) := by decide +kernel
theorem dX7_meanDoorFor_1 : decode cX7_meanDoorFor 1 = .ok (.iload_n 3, 1) := by decide +kernel
theorem dX7_meanDoorFor_2 : decode cX7_meanDoorFor 2 = .ok (.invokevirtual 83, 3) := by decide +kernel
theorem dX7_meanDoorFor_5 : decode cX7_meanDoorFor 5 = .ok (.ifCond .eq 41, 3) := by decide +kernel
theorem dX7_meanDoorFor_8 : decode cX7_meanDoorFor 8 = .ok (.aload_n 0, 1) := by decide +kernel
theorem dX7_meanDoorFor_9 : decode cX7_meanDoorFor 9 = .ok (.getfield 93, 3) := by decide +kernel
theorem dX7_meanDoorFor_12 : decode cX7_meanDoorFor 12 = .ok (.iload_n 3, 1) := by decide +kernel
theorem dX7_meanDoorFor_13 : decode cX7_meanDoorFor 13 = .ok (.iaload, 1) := by decide +kernel
theorem dX7_meanDoorFor_14 : decode cX7_meanDoorFor 14 = .ok (.istore 4, 2) := by decide +kernel
theorem dX7_meanDoorFor_16 : decode cX7_meanDoorFor 16 = .ok (.aload_n 1, 1) := by decide +kernel
theorem dX7_meanDoorFor_17 : decode cX7_meanDoorFor 17 = .ok (.iload_n 3, 1) := by decide +kernel
theorem dX7_meanDoorFor_18 : decode cX7_meanDoorFor 18 = .ok (.iload 4, 2) := by decide +kernel
theorem dX7_meanDoorFor_20 : decode cX7_meanDoorFor 20 = .ok (.aload_n 0, 1) := by decide +kernel
theorem dX7_meanDoorFor_21 : decode cX7_meanDoorFor 21 = .ok (.iload_n 2, 1) := by decide +kernel
theorem dX7_meanDoorFor_22 : decode cX7_meanDoorFor 22 = .ok (.iload 4, 2) := by decide +kernel
theorem dX7_meanDoorFor_24 : decode cX7_meanDoorFor 24 = .ok (.invokevirtual 97, 3) := by decide +kernel
theorem dX7_meanDoorFor_27 : decode cX7_meanDoorFor 27 = .ok (.invokevirtual 58, 3) := by decide +kernel
theorem dX7_meanDoorFor_30 : decode cX7_meanDoorFor 30 = .ok (.aload_n 1, 1) := by decide +kernel
theorem dX7_meanDoorFor_31 : decode cX7_meanDoorFor 31 = .ok (.aload_n 0, 1) := by decide +kernel
theorem dX7_meanDoorFor_32 : decode cX7_meanDoorFor 32 = .ok (.getfield 100, 3) := by decide +kernel
theorem dX7_meanDoorFor_35 : decode cX7_meanDoorFor 35 = .ok (.iload_n 3, 1) := by decide +kernel
theorem dX7_meanDoorFor_36 : decode cX7_meanDoorFor 36 = .ok (.iaload, 1) := by decide +kernel
theorem dX7_meanDoorFor_37 : decode cX7_meanDoorFor 37 = .ok (.aload_n 0, 1) := by decide +kernel
theorem dX7_meanDoorFor_38 : decode cX7_meanDoorFor 38 = .ok (.getfield 103, 3) := by decide +kernel
theorem dX7_meanDoorFor_41 : decode cX7_meanDoorFor 41 = .ok (.iload_n 3, 1) := by decide +kernel
theorem dX7_meanDoorFor_42 : decode cX7_meanDoorFor 42 = .ok (.iaload, 1) := by decide +kernel
theorem dX7_meanDoorFor_43 : decode cX7_meanDoorFor 43 = .ok (.invokevirtual 61, 3) := by decide +kernel
theorem dX7_meanDoorFor_46 : decode cX7_meanDoorFor 46 = .ok (.return_, 1) := by decide +kernel
theorem dX7_tryDoor_0 : decode cX7_tryDoor 0 = .ok (.aload_n 1, 1) := by decide +kernel
theorem dX7_tryDoor_1 : decode cX7_tryDoor 1 = .ok (.iload 4, 2) := by decide +kernel
theorem dX7_tryDoor_3 : decode cX7_tryDoor 3 = .ok (.invokevirtual 83, 3) := by decide +kernel
theorem dX7_tryDoor_6 : decode cX7_tryDoor 6 = .ok (.ifCond .ne 4, 3) := by decide +kernel
theorem dX7_tryDoor_9 : decode cX7_tryDoor 9 = .ok (.return_, 1) := by decide +kernel
theorem dX7_tryDoor_10 : decode cX7_tryDoor 10 = .ok (.aload_n 1, 1) := by decide +kernel
theorem dX7_tryDoor_11 : decode cX7_tryDoor 11 = .ok (.getfield 93, 3) := by decide +kernel
theorem dX7_tryDoor_14 : decode cX7_tryDoor 14 = .ok (.iload 4, 2) := by decide +kernel
theorem dX7_tryDoor_16 : decode cX7_tryDoor 16 = .ok (.iaload, 1) := by decide +kernel
theorem dX7_tryDoor_17 : decode cX7_tryDoor 17 = .ok (.istore 5, 2) := by decide +kernel
theorem dX7_tryDoor_19 : decode cX7_tryDoor 19 = .ok (.aload_n 1, 1) := by decide +kernel
theorem dX7_tryDoor_20 : decode cX7_tryDoor 20 = .ok (.iload_n 3, 1) := by decide +kernel
theorem dX7_tryDoor_21 : decode cX7_tryDoor 21 = .ok (.iload 5, 2) := by decide +kernel
theorem dX7_tryDoor_23 : decode cX7_tryDoor 23 = .ok (.invokevirtual 97, 3) := by decide +kernel
theorem dX7_tryDoor_26 : decode cX7_tryDoor 26 = .ok (.istore 6, 2) := by decide +kernel
theorem dX7_tryDoor_28 : decode cX7_tryDoor 28 = .ok (.aload_n 1, 1) := by decide +kernel
theorem dX7_tryDoor_29 : decode cX7_tryDoor 29 = .ok (.iload_n 3, 1) := by decide +kernel
theorem dX7_tryDoor_30 : decode cX7_tryDoor 30 = .ok (.iload 4, 2) := by decide +kernel
theorem dX7_tryDoor_32 : decode cX7_tryDoor 32 = .ok (.invokevirtual 106, 3) := by decide +kernel
theorem dX7_tryDoor_35 : decode cX7_tryDoor 35 = .ok (.ifCond .eq 68, 3) := by decide +kernel
theorem dX7_tryDoor_38 : decode cX7_tryDoor 38 = .ok (.aload_n 1, 1) := by decide +kernel
theorem dX7_tryDoor_39 : decode cX7_tryDoor 39 = .ok (.aload_n 2, 1) := by decide +kernel
theorem dX7_tryDoor_40 : decode cX7_tryDoor 40 = .ok (.iload_n 3, 1) := by decide +kernel
theorem dX7_tryDoor_41 : decode cX7_tryDoor 41 = .ok (.iload 4, 2) := by decide +kernel
theorem dX7_tryDoor_43 : decode cX7_tryDoor 43 = .ok (.invokestatic 86, 3) := by decide +kernel
theorem dX7_tryDoor_46 : decode cX7_tryDoor 46 = .ok (.aload_n 2, 1) := by decide +kernel
theorem dX7_tryDoor_47 : decode cX7_tryDoor 47 = .ok (.bipush 99, 2) := by decide +kernel
theorem dX7_tryDoor_49 : decode cX7_tryDoor 49 = .ok (.bipush 99, 2) := by decide +kernel
theorem dX7_tryDoor_51 : decode cX7_tryDoor 51 = .ok (.invokevirtual 89, 3) := by decide +kernel
theorem dX7_tryDoor_54 : decode cX7_tryDoor 54 = .ok (.istore 7, 2) := by decide +kernel
theorem dX7_tryDoor_56 : decode cX7_tryDoor 56 = .ok (.aload_n 0, 1) := by decide +kernel
theorem dX7_tryDoor_57 : decode cX7_tryDoor 57 = .ok (.dup, 1) := by decide +kernel
theorem dX7_tryDoor_58 : decode cX7_tryDoor 58 = .ok (.getfield 18, 3) := by decide +kernel
theorem dX7_tryDoor_61 : decode cX7_tryDoor 61 = .ok (.iconst 1, 1) := by decide +kernel
theorem dX7_tryDoor_62 : decode cX7_tryDoor 62 = .ok (.iadd, 1) := by decide +kernel
theorem dX7_tryDoor_63 : decode cX7_tryDoor 63 = .ok (.putfield 18, 3) := by decide +kernel
theorem dX7_tryDoor_66 : decode cX7_tryDoor 66 = .ok (.aload_n 1, 1) := by decide +kernel
theorem dX7_tryDoor_67 : decode cX7_tryDoor 67 = .ok (.getfield 103, 3) := by decide +kernel
theorem dX7_tryDoor_70 : decode cX7_tryDoor 70 = .ok (.iload 4, 2) := by decide +kernel
theorem dX7_tryDoor_72 : decode cX7_tryDoor 72 = .ok (.sipush 9999, 3) := by decide +kernel
theorem dX7_tryDoor_75 : decode cX7_tryDoor 75 = .ok (.aload_n 1, 1) := by decide +kernel
theorem dX7_tryDoor_76 : decode cX7_tryDoor 76 = .ok (.getfield 103, 3) := by decide +kernel
theorem dX7_tryDoor_79 : decode cX7_tryDoor 79 = .ok (.iload 4, 2) := by decide +kernel
theorem dX7_tryDoor_81 : decode cX7_tryDoor 81 = .ok (.iaload, 1) := by decide +kernel
theorem dX7_tryDoor_82 : decode cX7_tryDoor 82 = .ok (.iconst 1, 1) := by decide +kernel
theorem dX7_tryDoor_83 : decode cX7_tryDoor 83 = .ok (.iadd, 1) := by decide +kernel
theorem dX7_tryDoor_84 : decode cX7_tryDoor 84 = .ok (.invokestatic 110, 3) := by decide +kernel
theorem dX7_tryDoor_87 : decode cX7_tryDoor 87 = .ok (.iastore, 1) := by decide +kernel
theorem dX7_tryDoor_88 : decode cX7_tryDoor 88 = .ok (.aload_n 1, 1) := by decide +kernel
theorem dX7_tryDoor_89 : decode cX7_tryDoor 89 = .ok (.iload_n 3, 1) := by decide +kernel
theorem dX7_tryDoor_90 : decode cX7_tryDoor 90 = .ok (.iload 5, 2) := by decide +kernel
theorem dX7_tryDoor_92 : decode cX7_tryDoor 92 = .ok (.iload 6, 2) := by decide +kernel
theorem dX7_tryDoor_94 : decode cX7_tryDoor 94 = .ok (.iload 7, 2) := by decide +kernel
theorem dX7_tryDoor_96 : decode cX7_tryDoor 96 = .ok (.isub, 1) := by decide +kernel
theorem dX7_tryDoor_97 : decode cX7_tryDoor 97 = .ok (.invokevirtual 115, 3) := by decide +kernel
theorem dX7_tryDoor_100 : decode cX7_tryDoor 100 = .ok (.goto 24, 3) := by decide +kernel
theorem dX7_tryDoor_103 : decode cX7_tryDoor 103 = .ok (.aload_n 0, 1) := by decide +kernel
theorem dX7_tryDoor_104 : decode cX7_tryDoor 104 = .ok (.dup, 1) := by decide +kernel
theorem dX7_tryDoor_105 : decode cX7_tryDoor 105 = .ok (.getfield 22, 3) := by decide +kernel
theorem dX7_tryDoor_108 : decode cX7_tryDoor 108 = .ok (.iconst 1, 1) := by decide +kernel
theorem dX7_tryDoor_109 : decode cX7_tryDoor 109 = .ok (.iadd, 1) := by decide +kernel
theorem dX7_tryDoor_110 : decode cX7_tryDoor 110 = .ok (.putfield 22, 3) := by decide +kernel
theorem dX7_tryDoor_113 : decode cX7_tryDoor 113 = .ok (.aload_n 1, 1) := by decide +kernel
theorem dX7_tryDoor_114 : decode cX7_tryDoor 114 = .ok (.iload_n 3, 1) := by decide +kernel
theorem dX7_tryDoor_115 : decode cX7_tryDoor 115 = .ok (.iload 5, 2) := by decide +kernel
theorem dX7_tryDoor_117 : decode cX7_tryDoor 117 = .ok (.iload 6, 2) := by decide +kernel
theorem dX7_tryDoor_119 : decode cX7_tryDoor 119 = .ok (.iconst 1, 1) := by decide +kernel
theorem dX7_tryDoor_120 : decode cX7_tryDoor 120 = .ok (.iadd, 1) := by decide +kernel
theorem dX7_tryDoor_121 : decode cX7_tryDoor 121 = .ok (.invokevirtual 115, 3) := by decide +kernel
theorem dX7_tryDoor_124 : decode cX7_tryDoor 124 = .ok (.return_, 1) := by decide +kernel
theorem dX7_spreadDread_0 : decode cX7_spreadDread 0 = .ok (.aload_n 0, 1) := by decide +kernel
theorem dX7_spreadDread_1 : decode cX7_spreadDread 1 = .ok (.getfield 12, 3) := by decide +kernel
theorem dX7_spreadDread_4 : decode cX7_spreadDread 4 = .ok (.aload_n 1, 1) := by decide +kernel
theorem dX7_spreadDread_5 : decode cX7_spreadDread 5 = .ok (.invokevirtual 118, 3) := by decide +kernel
theorem dX7_spreadDread_8 : decode cX7_spreadDread 8 = .ok (.aload_n 2, 1) := by decide +kernel
theorem dX7_spreadDread_9 : decode cX7_spreadDread 9 = .ok (.iconst 0, 1) := by decide +kernel
theorem dX7_spreadDread_10 : decode cX7_spreadDread 10 = .ok (.iconst 0, 1) := by decide +kernel
theorem dX7_spreadDread_11 : decode cX7_spreadDread 11 = .ok (.invokevirtual 61, 3) := by decide +kernel
theorem dX7_spreadDread_14 : decode cX7_spreadDread 14 = .ok (.aload_n 2, 1) := by decide +kernel
theorem dX7_spreadDread_15 : decode cX7_spreadDread 15 = .ok (.aload_n 1, 1) := by decide +kernel
theorem dX7_spreadDread_16 : decode cX7_spreadDread 16 = .ok (.getfield 25, 3) := by decide +kernel
theorem dX7_spreadDread_19 : decode cX7_spreadDread 19 = .ok (.bipush 100, 2) := by decide +kernel
theorem dX7_spreadDread_21 : decode cX7_spreadDread 21 = .ok (.irem, 1) := by decide +kernel
theorem dX7_spreadDread_22 : decode cX7_spreadDread 22 = .ok (.iconst 0, 1) := by decide +kernel
theorem dX7_spreadDread_23 : decode cX7_spreadDread 23 = .ok (.invokevirtual 69, 3) := by decide +kernel
theorem dX7_spreadDread_26 : decode cX7_spreadDread 26 = .ok (.iconst 0, 1) := by decide +kernel
theorem dX7_spreadDread_27 : decode cX7_spreadDread 27 = .ok (.istore_n 3, 1) := by decide +kernel
theorem dX7_spreadDread_28 : decode cX7_spreadDread 28 = .ok (.iload_n 3, 1) := by decide +kernel
theorem dX7_spreadDread_29 : decode cX7_spreadDread 29 = .ok (.bipush 12, 2) := by decide +kernel
theorem dX7_spreadDread_31 : decode cX7_spreadDread 31 = .ok (.if_icmp .ge 58, 3) := by decide +kernel
theorem dX7_spreadDread_34 : decode cX7_spreadDread 34 = .ok (.iload_n 3, 1) := by decide +kernel
theorem dX7_spreadDread_35 : decode cX7_spreadDread 35 = .ok (.iconst 1, 1) := by decide +kernel
theorem dX7_spreadDread_36 : decode cX7_spreadDread 36 = .ok (.iadd, 1) := by decide +kernel
theorem dX7_spreadDread_37 : decode cX7_spreadDread 37 = .ok (.istore 4, 2) := by decide +kernel
theorem dX7_spreadDread_39 : decode cX7_spreadDread 39 = .ok (.iload 4, 2) := by decide +kernel
theorem dX7_spreadDread_41 : decode cX7_spreadDread 41 = .ok (.bipush 12, 2) := by decide +kernel
theorem dX7_spreadDread_43 : decode cX7_spreadDread 43 = .ok (.if_icmp .ge 40, 3) := by decide +kernel
theorem dX7_spreadDread_46 : decode cX7_spreadDread 46 = .ok (.aload_n 1, 1) := by decide +kernel
theorem dX7_spreadDread_47 : decode cX7_spreadDread 47 = .ok (.iload_n 3, 1) := by decide +kernel
theorem dX7_spreadDread_48 : decode cX7_spreadDread 48 = .ok (.invokevirtual 44, 3) := by decide +kernel
theorem dX7_spreadDread_51 : decode cX7_spreadDread 51 = .ok (.iload 4, 2) := by decide +kernel
theorem dX7_spreadDread_53 : decode cX7_spreadDread 53 = .ok (.invokestatic 122, 3) := by decide +kernel
theorem dX7_spreadDread_56 : decode cX7_spreadDread 56 = .ok (.ifCond .eq 21, 3) := by decide +kernel
theorem dX7_spreadDread_59 : decode cX7_spreadDread 59 = .ok (.aload_n 0, 1) := by decide +kernel
theorem dX7_spreadDread_60 : decode cX7_spreadDread 60 = .ok (.aload_n 1, 1) := by decide +kernel
theorem dX7_spreadDread_61 : decode cX7_spreadDread 61 = .ok (.aload_n 2, 1) := by decide +kernel
theorem dX7_spreadDread_62 : decode cX7_spreadDread 62 = .ok (.iload_n 3, 1) := by decide +kernel
theorem dX7_spreadDread_63 : decode cX7_spreadDread 63 = .ok (.iload 4, 2) := by decide +kernel
theorem dX7_spreadDread_65 : decode cX7_spreadDread 65 = .ok (.invokevirtual 125, 3) := by decide +kernel
theorem dX7_spreadDread_68 : decode cX7_spreadDread 68 = .ok (.aload_n 0, 1) := by decide +kernel
theorem dX7_spreadDread_69 : decode cX7_spreadDread 69 = .ok (.aload_n 1, 1) := by decide +kernel
theorem dX7_spreadDread_70 : decode cX7_spreadDread 70 = .ok (.aload_n 2, 1) := by decide +kernel
theorem dX7_spreadDread_71 : decode cX7_spreadDread 71 = .ok (.iload 4, 2) := by decide +kernel
theorem dX7_spreadDread_73 : decode cX7_spreadDread 73 = .ok (.iload_n 3, 1) := by decide +kernel
theorem dX7_spreadDread_74 : decode cX7_spreadDread 74 = .ok (.invokevirtual 125, 3) := by decide +kernel
theorem dX7_spreadDread_77 : decode cX7_spreadDread 77 = .ok (.iinc 4 1, 3) := by decide +kernel
theorem dX7_spreadDread_80 : decode cX7_spreadDread 80 = .ok (.goto (-41), 3) := by decide +kernel
theorem dX7_spreadDread_83 : decode cX7_spreadDread 83 = .ok (.iinc 3 1, 3) := by decide +kernel
theorem dX7_spreadDread_86 : decode cX7_spreadDread 86 = .ok (.goto (-58), 3) := by decide +kernel
theorem dX7_spreadDread_89 : decode cX7_spreadDread 89 = .ok (.return_, 1) := by decide +kernel
theorem dX7_catchDread_0 : decode cX7_catchDread 0 = .ok (.aload_n 0, 1) := by decide +kernel
theorem dX7_catchDread_1 : decode cX7_catchDread 1 = .ok (.getfield 12, 3) := by decide +kernel
theorem dX7_catchDread_4 : decode cX7_catchDread 4 = .ok (.iload 4, 2) := by decide +kernel
theorem dX7_catchDread_6 : decode cX7_catchDread 6 = .ok (.invokevirtual 128, 3) := by decide +kernel
theorem dX7_catchDread_9 : decode cX7_catchDread 9 = .ok (.istore 5, 2) := by decide +kernel
theorem dX7_catchDread_11 : decode cX7_catchDread 11 = .ok (.iload 5, 2) := by decide +kernel
theorem dX7_catchDread_13 : decode cX7_catchDread 13 = .ok (.ifCond .ge 4, 3) := by decide +kernel
theorem dX7_catchDread_16 : decode cX7_catchDread 16 = .ok (.return_, 1) := by decide +kernel
theorem dX7_catchDread_17 : decode cX7_catchDread 17 = .ok (.aload_n 2, 1) := by decide +kernel
theorem dX7_catchDread_18 : decode cX7_catchDread 18 = .ok (.iload_n 3, 1) := by decide +kernel
theorem dX7_catchDread_19 : decode cX7_catchDread 19 = .ok (.aload_n 0, 1) := by decide +kernel
theorem dX7_catchDread_20 : decode cX7_catchDread 20 = .ok (.getfield 12, 3) := by decide +kernel
theorem dX7_catchDread_23 : decode cX7_catchDread 23 = .ok (.iload_n 3, 1) := by decide +kernel
theorem dX7_catchDread_24 : decode cX7_catchDread 24 = .ok (.invokevirtual 40, 3) := by decide +kernel
theorem dX7_catchDread_27 : decode cX7_catchDread 27 = .ok (.aload_n 1, 1) := by decide +kernel
theorem dX7_catchDread_28 : decode cX7_catchDread 28 = .ok (.iload_n 3, 1) := by decide +kernel
theorem dX7_catchDread_29 : decode cX7_catchDread 29 = .ok (.invokevirtual 44, 3) := by decide +kernel
theorem dX7_catchDread_32 : decode cX7_catchDread 32 = .ok (.invokestatic 47, 3) := by decide +kernel
theorem dX7_catchDread_35 : decode cX7_catchDread 35 = .ok (.invokevirtual 52, 3) := by decide +kernel
theorem dX7_catchDread_38 : decode cX7_catchDread 38 = .ok (.aload_n 2, 1) := by decide +kernel
theorem dX7_catchDread_39 : decode cX7_catchDread 39 = .ok (.iload 4, 2) := by decide +kernel
theorem dX7_catchDread_41 : decode cX7_catchDread 41 = .ok (.iload 5, 2) := by decide +kernel
theorem dX7_catchDread_43 : decode cX7_catchDread 43 = .ok (.aload_n 0, 1) := by decide +kernel
theorem dX7_catchDread_44 : decode cX7_catchDread 44 = .ok (.getfield 12, 3) := by decide +kernel
theorem dX7_catchDread_47 : decode cX7_catchDread 47 = .ok (.iload_n 3, 1) := by decide +kernel
theorem dX7_catchDread_48 : decode cX7_catchDread 48 = .ok (.iload 5, 2) := by decide +kernel
theorem dX7_catchDread_50 : decode cX7_catchDread 50 = .ok (.invokevirtual 97, 3) := by decide +kernel
theorem dX7_catchDread_53 : decode cX7_catchDread 53 = .ok (.invokevirtual 58, 3) := by decide +kernel
theorem dX7_catchDread_56 : decode cX7_catchDread 56 = .ok (.aload_n 2, 1) := by decide +kernel
theorem dX7_catchDread_57 : decode cX7_catchDread 57 = .ok (.bipush 115, 2) := by decide +kernel
theorem dX7_catchDread_59 : decode cX7_catchDread 59 = .ok (.bipush 99, 2) := by decide +kernel
theorem dX7_catchDread_61 : decode cX7_catchDread 61 = .ok (.invokevirtual 89, 3) := by decide +kernel
theorem dX7_catchDread_64 : decode cX7_catchDread 64 = .ok (.istore 6, 2) := by decide +kernel
theorem dX7_catchDread_66 : decode cX7_catchDread 66 = .ok (.aload_n 1, 1) := by decide +kernel
theorem dX7_catchDread_67 : decode cX7_catchDread 67 = .ok (.iload_n 3, 1) := by decide +kernel
theorem dX7_catchDread_68 : decode cX7_catchDread 68 = .ok (.iload 5, 2) := by decide +kernel
theorem dX7_catchDread_70 : decode cX7_catchDread 70 = .ok (.aload_n 1, 1) := by decide +kernel
theorem dX7_catchDread_71 : decode cX7_catchDread 71 = .ok (.iload_n 3, 1) := by decide +kernel
theorem dX7_catchDread_72 : decode cX7_catchDread 72 = .ok (.iload 5, 2) := by decide +kernel
theorem dX7_catchDread_74 : decode cX7_catchDread 74 = .ok (.invokevirtual 97, 3) := by decide +kernel
theorem dX7_catchDread_77 : decode cX7_catchDread 77 = .ok (.iload 6, 2) := by decide +kernel
theorem dX7_catchDread_79 : decode cX7_catchDread 79 = .ok (.iadd, 1) := by decide +kernel
theorem dX7_catchDread_80 : decode cX7_catchDread 80 = .ok (.invokevirtual 115, 3) := by decide +kernel
theorem dX7_catchDread_83 : decode cX7_catchDread 83 = .ok (.return_, 1) := by decide +kernel
theorem dX8_init_0 : decode cX8_init 0 = .ok (.aload_n 0, 1) := by decide +kernel
theorem dX8_init_1 : decode cX8_init 1 = .ok (.aload_n 1, 1) := by decide +kernel
theorem dX8_init_2 : decode cX8_init 2 = .ok (.invokespecial 3, 3) := by decide +kernel
theorem dX8_init_5 : decode cX8_init 5 = .ok (.aload_n 0, 1) := by decide +kernel
theorem dX8_init_6 : decode cX8_init 6 = .ok (.aload_n 2, 1) := by decide +kernel
theorem dX8_init_7 : decode cX8_init 7 = .ok (.putfield 9, 3) := by decide +kernel
theorem dX8_init_10 : decode cX8_init 10 = .ok (.return_, 1) := by decide +kernel
theorem dX8_startsLine_0 : decode cX8_startsLine 0 = .ok (.iload_n 1, 1) := by decide +kernel
theorem dX8_startsLine_1 : decode cX8_startsLine 1 = .ok (.bipush 100, 2) := by decide +kernel
theorem dX8_startsLine_3 : decode cX8_startsLine 3 = .ok (.if_icmp .eq 10, 3) := by decide +kernel
theorem dX8_startsLine_6 : decode cX8_startsLine 6 = .ok (.iload_n 1, 1) := by decide +kernel
theorem dX8_startsLine_7 : decode cX8_startsLine 7 = .ok (.invokestatic 15, 3) := by decide +kernel
theorem dX8_startsLine_10 : decode cX8_startsLine 10 = .ok (.ifCond .eq 7, 3) := by decide +kernel
theorem dX8_startsLine_13 : decode cX8_startsLine 13 = .ok (.iconst 1, 1) := by decide +kernel
theorem dX8_startsLine_14 : decode cX8_startsLine 14 = .ok (.goto 4, 3) := by decide +kernel
theorem dX8_startsLine_17 : decode cX8_startsLine 17 = .ok (.iconst 0, 1) := by decide +kernel
theorem dX8_startsLine_18 : decode cX8_startsLine 18 = .ok (.ireturn, 1) := by decide +kernel
theorem dX8_readLine_0 : decode cX8_readLine 0 = .ok (.aload_n 0, 1) := by decide +kernel
theorem dX8_readLine_1 : decode cX8_readLine 1 = .ok (.getfield 21, 3) := by decide +kernel
theorem dX8_readLine_4 : decode cX8_readLine 4 = .ok (.invokevirtual 25, 3) := by decide +kernel
theorem dX8_readLine_7 : decode cX8_readLine 7 = .ok (.bipush 100, 2) := by decide +kernel
theorem dX8_readLine_9 : decode cX8_readLine 9 = .ok (.if_icmp .ne 10, 3) := by decide +kernel
theorem dX8_readLine_12 : decode cX8_readLine 12 = .ok (.aload_n 0, 1) := by decide +kernel
theorem dX8_readLine_13 : decode cX8_readLine 13 = .ok (.invokevirtual 29, 3) := by decide +kernel
theorem dX8_readLine_16 : decode cX8_readLine 16 = .ok (.goto 7, 3) := by decide +kernel
theorem dX8_readLine_19 : decode cX8_readLine 19 = .ok (.aload_n 0, 1) := by decide +kernel
theorem dX8_readLine_20 : decode cX8_readLine 20 = .ok (.invokevirtual 33, 3) := by decide +kernel
theorem dX8_readLine_23 : decode cX8_readLine 23 = .ok (.ireturn, 1) := by decide +kernel
theorem dX8_readAcquaintance_0 : decode cX8_readAcquaintance 0 = .ok (.aload_n 0, 1) := by decide +kernel
theorem dX8_readAcquaintance_1 : decode cX8_readAcquaintance 1 = .ok (.invokevirtual 36, 3) := by decide +kernel
theorem dX8_readAcquaintance_4 : decode cX8_readAcquaintance 4 = .ok (.istore_n 1, 1) := by decide +kernel
theorem dX8_readAcquaintance_5 : decode cX8_readAcquaintance 5 = .ok (.iload_n 1, 1) := by decide +kernel
theorem dX8_readAcquaintance_6 : decode cX8_readAcquaintance 6 = .ok (.ifCond .ge 5, 3) := by decide +kernel
theorem dX8_readAcquaintance_9 : decode cX8_readAcquaintance 9 = .ok (.iconst 0, 1) := by decide +kernel
theorem dX8_readAcquaintance_10 : decode cX8_readAcquaintance 10 = .ok (.ireturn, 1) := by decide +kernel
theorem dX8_readAcquaintance_11 : decode cX8_readAcquaintance 11 = .ok (.aload_n 0, 1) := by decide +kernel
theorem dX8_readAcquaintance_12 : decode cX8_readAcquaintance 12 = .ok (.getfield 21, 3) := by decide +kernel
theorem dX8_readAcquaintance_15 : decode cX8_readAcquaintance 15 = .ok (.invokevirtual 25, 3) := by decide +kernel
theorem dX8_readAcquaintance_18 : decode cX8_readAcquaintance 18 = .ok (.istore_n 2, 1) := by decide +kernel
theorem dX8_readAcquaintance_19 : decode cX8_readAcquaintance 19 = .ok (.iload_n 2, 1) := by decide +kernel
theorem dX8_readAcquaintance_20 : decode cX8_readAcquaintance 20 = .ok (.bipush 38, 2) := by decide +kernel
theorem dX8_readAcquaintance_22 : decode cX8_readAcquaintance 22 = .ok (.if_icmp .eq 17, 3) := by decide +kernel
theorem dX8_readAcquaintance_25 : decode cX8_readAcquaintance 25 = .ok (.iload_n 2, 1) := by decide +kernel
theorem dX8_readAcquaintance_26 : decode cX8_readAcquaintance 26 = .ok (.bipush 47, 2) := by decide +kernel
theorem dX8_readAcquaintance_28 : decode cX8_readAcquaintance 28 = .ok (.if_icmp .eq 11, 3) := by decide +kernel
theorem dX8_readAcquaintance_31 : decode cX8_readAcquaintance 31 = .ok (.aload_n 0, 1) := by decide +kernel
theorem dX8_readAcquaintance_32 : decode cX8_readAcquaintance 32 = .ok (.getfield 21, 3) := by decide +kernel
theorem dX8_readAcquaintance_35 : decode cX8_readAcquaintance 35 = .ok (.invokevirtual 39, 3) := by decide +kernel
theorem dX8_readAcquaintance_38 : decode cX8_readAcquaintance 38 = .ok (.ireturn, 1) := by decide +kernel
theorem dX8_readAcquaintance_39 : decode cX8_readAcquaintance 39 = .ok (.aload_n 0, 1) := by decide +kernel
theorem dX8_readAcquaintance_40 : decode cX8_readAcquaintance 40 = .ok (.getfield 21, 3) := by decide +kernel
theorem dX8_readAcquaintance_43 : decode cX8_readAcquaintance 43 = .ok (.dup, 1) := by decide +kernel
theorem dX8_readAcquaintance_44 : decode cX8_readAcquaintance 44 = .ok (.getfield 42, 3) := by decide +kernel
theorem dX8_readAcquaintance_47 : decode cX8_readAcquaintance 47 = .ok (.iconst 1, 1) := by decide +kernel
theorem dX8_readAcquaintance_48 : decode cX8_readAcquaintance 48 = .ok (.iadd, 1) := by decide +kernel
theorem dX8_readAcquaintance_49 : decode cX8_readAcquaintance 49 = .ok (.putfield 42, 3) := by decide +kernel
theorem dX8_readAcquaintance_52 : decode cX8_readAcquaintance 52 = .ok (.aload_n 0, 1) := by decide +kernel
theorem dX8_readAcquaintance_53 : decode cX8_readAcquaintance 53 = .ok (.getfield 21, 3) := by decide +kernel
theorem dX8_readAcquaintance_56 : decode cX8_readAcquaintance 56 = .ok (.getfield 42, 3) := by decide +kernel
theorem dX8_readAcquaintance_59 : decode cX8_readAcquaintance 59 = .ok (.istore_n 3, 1) := by decide +kernel
theorem dX8_readAcquaintance_60 : decode cX8_readAcquaintance 60 = .ok (.aload_n 0, 1) := by decide +kernel
theorem dX8_readAcquaintance_61 : decode cX8_readAcquaintance 61 = .ok (.invokevirtual 36, 3) := by decide +kernel
theorem dX8_readAcquaintance_64 : decode cX8_readAcquaintance 64 = .ok (.istore 4, 2) := by decide +kernel
theorem dX8_readAcquaintance_66 : decode cX8_readAcquaintance 66 = .ok (.iload 4, 2) := by decide +kernel
theorem dX8_readAcquaintance_68 : decode cX8_readAcquaintance 68 = .ok (.ifCond .ge 5, 3) := by decide +kernel
theorem dX8_readAcquaintance_71 : decode cX8_readAcquaintance 71 = .ok (.iconst 0, 1) := by decide +kernel
theorem dX8_readAcquaintance_72 : decode cX8_readAcquaintance 72 = .ok (.ireturn, 1) := by decide +kernel
theorem dX8_readAcquaintance_73 : decode cX8_readAcquaintance 73 = .ok (.iload_n 1, 1) := by decide +kernel
theorem dX8_readAcquaintance_74 : decode cX8_readAcquaintance 74 = .ok (.iload 4, 2) := by decide +kernel
theorem dX8_readAcquaintance_76 : decode cX8_readAcquaintance 76 = .ok (.if_icmp .ne 14, 3) := by decide +kernel
theorem dX8_readAcquaintance_79 : decode cX8_readAcquaintance 79 = .ok (.aload_n 0, 1) := by decide +kernel
theorem dX8_readAcquaintance_80 : decode cX8_readAcquaintance 80 = .ok (.getfield 21, 3) := by decide +kernel
theorem dX8_readAcquaintance_83 : decode cX8_readAcquaintance 83 = .ok (.bipush 6, 2) := by decide +kernel
theorem dX8_readAcquaintance_85 : decode cX8_readAcquaintance 85 = .ok (.iload_n 3, 1) := by decide +kernel
theorem dX8_readAcquaintance_86 : decode cX8_readAcquaintance 86 = .ok (.invokevirtual 46, 3) := by decide +kernel
theorem dX8_readAcquaintance_89 : decode cX8_readAcquaintance 89 = .ok (.ireturn, 1) := by decide +kernel
theorem dX8_readAcquaintance_90 : decode cX8_readAcquaintance 90 = .ok (.aload_n 0, 1) := by decide +kernel
theorem dX8_readAcquaintance_91 : decode cX8_readAcquaintance 91 = .ok (.getfield 9, 3) := by decide +kernel
theorem dX8_readAcquaintance_94 : decode cX8_readAcquaintance 94 = .ok (.iload_n 1, 1) := by decide +kernel
theorem dX8_readAcquaintance_95 : decode cX8_readAcquaintance 95 = .ok (.iload 4, 2) := by decide +kernel
theorem dX8_readAcquaintance_97 : decode cX8_readAcquaintance 97 = .ok (.iload_n 2, 1) := by decide +kernel
theorem dX8_readAcquaintance_98 : decode cX8_readAcquaintance 98 = .ok (.bipush 38, 2) := by decide +kernel
theorem dX8_readAcquaintance_100 : decode cX8_readAcquaintance 100 = .ok (.if_icmp .ne 7, 3) := by decide +kernel
theorem dX8_readAcquaintance_103 : decode cX8_readAcquaintance 103 = .ok (.iconst 1, 1) := by decide +kernel
theorem dX8_readAcquaintance_104 : decode cX8_readAcquaintance 104 = .ok (.goto 4, 3) := by decide +kernel
theorem dX8_readAcquaintance_107 : decode cX8_readAcquaintance 107 = .ok (.iconst 0, 1) := by decide +kernel
theorem dX8_readAcquaintance_108 : decode cX8_readAcquaintance 108 = .ok (.invokevirtual 50, 3) := by decide +kernel
theorem dX8_readAcquaintance_111 : decode cX8_readAcquaintance 111 = .ok (.iconst 1, 1) := by decide +kernel
theorem dX8_readAcquaintance_112 : decode cX8_readAcquaintance 112 = .ok (.ireturn, 1) := by decide +kernel
theorem dX8_readPerson_0 : decode cX8_readPerson 0 = .ok (.aload_n 0, 1) := by decide +kernel
theorem dX8_readPerson_1 : decode cX8_readPerson 1 = .ok (.getfield 21, 3) := by decide +kernel
theorem dX8_readPerson_4 : decode cX8_readPerson 4 = .ok (.getfield 42, 3) := by decide +kernel
theorem dX8_readPerson_7 : decode cX8_readPerson 7 = .ok (.istore_n 1, 1) := by decide +kernel
theorem dX8_readPerson_8 : decode cX8_readPerson 8 = .ok (.aload_n 0, 1) := by decide +kernel
theorem dX8_readPerson_9 : decode cX8_readPerson 9 = .ok (.getfield 21, 3) := by decide +kernel
theorem dX8_readPerson_12 : decode cX8_readPerson 12 = .ok (.iconst 2, 1) := by decide +kernel
theorem dX8_readPerson_13 : decode cX8_readPerson 13 = .ok (.invokevirtual 56, 3) := by decide +kernel
theorem dX8_readPerson_16 : decode cX8_readPerson 16 = .ok (.istore_n 2, 1) := by decide +kernel
theorem dX8_readPerson_17 : decode cX8_readPerson 17 = .ok (.iload_n 2, 1) := by decide +kernel
theorem dX8_readPerson_18 : decode cX8_readPerson 18 = .ok (.ifCond .lt 27, 3) := by decide +kernel
theorem dX8_readPerson_21 : decode cX8_readPerson 21 = .ok (.aload_n 0, 1) := by decide +kernel
theorem dX8_readPerson_22 : decode cX8_readPerson 22 = .ok (.getfield 9, 3) := by decide +kernel
theorem dX8_readPerson_25 : decode cX8_readPerson 25 = .ok (.iload_n 2, 1) := by decide +kernel
theorem dX8_readPerson_26 : decode cX8_readPerson 26 = .ok (.invokevirtual 60, 3) := by decide +kernel
theorem dX8_readPerson_29 : decode cX8_readPerson 29 = .ok (.ifCond .ne 16, 3) := by decide +kernel
theorem dX8_readPerson_32 : decode cX8_readPerson 32 = .ok (.aload_n 0, 1) := by decide +kernel
theorem dX8_readPerson_33 : decode cX8_readPerson 33 = .ok (.getfield 21, 3) := by decide +kernel
theorem dX8_readPerson_36 : decode cX8_readPerson 36 = .ok (.bipush 7, 2) := by decide +kernel
theorem dX8_readPerson_38 : decode cX8_readPerson 38 = .ok (.iload_n 1, 1) := by decide +kernel
theorem dX8_readPerson_39 : decode cX8_readPerson 39 = .ok (.invokevirtual 46, 3) := by decide +kernel
theorem dX8_readPerson_42 : decode cX8_readPerson 42 = .ok (.pop, 1) := by decide +kernel
theorem dX8_readPerson_43 : decode cX8_readPerson 43 = .ok (.iconst (-1), 1) := by decide +kernel
theorem dX8_readPerson_44 : decode cX8_readPerson 44 = .ok (.ireturn, 1) := by decide +kernel
theorem dX8_readPerson_45 : decode cX8_readPerson 45 = .ok (.iload_n 2, 1) := by decide +kernel
theorem dX8_readPerson_46 : decode cX8_readPerson 46 = .ok (.ireturn, 1) := by decide +kernel
theorem dX8_readDoor_0 : decode cX8_readDoor 0 = .ok (.aload_n 0, 1) := by decide +kernel
theorem dX8_readDoor_1 : decode cX8_readDoor 1 = .ok (.getfield 21, 3) := by decide +kernel
theorem dX8_readDoor_4 : decode cX8_readDoor 4 = .ok (.dup, 1) := by decide +kernel
theorem dX8_readDoor_5 : decode cX8_readDoor 5 = .ok (.getfield 42, 3) := by decide +kernel
theorem dX8_readDoor_8 : decode cX8_readDoor 8 = .ok (.iconst 1, 1) := by decide +kernel
theorem dX8_readDoor_9 : decode cX8_readDoor 9 = .ok (.iadd, 1) := by decide +kernel
theorem dX8_readDoor_10 : decode cX8_readDoor 10 = .ok (.putfield 42, 3) := by decide +kernel
theorem dX8_readDoor_13 : decode cX8_readDoor 13 = .ok (.aload_n 0, 1) := by decide +kernel
theorem dX8_readDoor_14 : decode cX8_readDoor 14 = .ok (.getfield 21, 3) := by decide +kernel
theorem dX8_readDoor_17 : decode cX8_readDoor 17 = .ok (.getfield 42, 3) := by decide +kernel
theorem dX8_readDoor_20 : decode cX8_readDoor 20 = .ok (.istore_n 1, 1) := by decide +kernel
theorem dX8_readDoor_21 : decode cX8_readDoor 21 = .ok (.aload_n 0, 1) := by decide +kernel
theorem dX8_readDoor_22 : decode cX8_readDoor 22 = .ok (.getfield 21, 3) := by decide +kernel
theorem dX8_readDoor_25 : decode cX8_readDoor 25 = .ok (.iconst 2, 1) := by decide +kernel
theorem dX8_readDoor_26 : decode cX8_readDoor 26 = .ok (.invokevirtual 56, 3) := by decide +kernel
theorem dX8_readDoor_29 : decode cX8_readDoor 29 = .ok (.istore_n 2, 1) := by decide +kernel
theorem dX8_readDoor_30 : decode cX8_readDoor 30 = .ok (.iload_n 2, 1) := by decide +kernel
theorem dX8_readDoor_31 : decode cX8_readDoor 31 = .ok (.ifCond .ge 5, 3) := by decide +kernel
theorem dX8_readDoor_34 : decode cX8_readDoor 34 = .ok (.iconst 0, 1) := by decide +kernel
theorem dX8_readDoor_35 : decode cX8_readDoor 35 = .ok (.ireturn, 1) := by decide +kernel
theorem dX8_readDoor_36 : decode cX8_readDoor 36 = .ok (.iload_n 2, 1) := by decide +kernel
theorem dX8_readDoor_37 : decode cX8_readDoor 37 = .ok (.bipush 16, 2) := by decide +kernel
theorem dX8_readDoor_39 : decode cX8_readDoor 39 = .ok (.if_icmp .lt 13, 3) := by decide +kernel
theorem dX8_readDoor_42 : decode cX8_readDoor 42 = .ok (.aload_n 0, 1) := by decide +kernel
theorem dX8_readDoor_43 : decode cX8_readDoor 43 = .ok (.getfield 21, 3) := by decide +kernel
theorem dX8_readDoor_46 : decode cX8_readDoor 46 = .ok (.iconst 3, 1) := by decide +kernel
theorem dX8_readDoor_47 : decode cX8_readDoor 47 = .ok (.iload_n 1, 1) := by decide +kernel
theorem dX8_readDoor_48 : decode cX8_readDoor 48 = .ok (.invokevirtual 46, 3) := by decide +kernel
theorem dX8_readDoor_51 : decode cX8_readDoor 51 = .ok (.ireturn, 1) := by decide +kernel
theorem dX8_readDoor_52 : decode cX8_readDoor 52 = .ok (.aload_n 0, 1) := by decide +kernel
theorem dX8_readDoor_53 : decode cX8_readDoor 53 = .ok (.getfield 21, 3) := by decide +kernel
theorem dX8_readDoor_56 : decode cX8_readDoor 56 = .ok (.invokevirtual 25, 3) := by decide +kernel
theorem dX8_readDoor_59 : decode cX8_readDoor 59 = .ok (.bipush 33, 2) := by decide +kernel
theorem dX8_readDoor_61 : decode cX8_readDoor 61 = .ok (.if_icmp .ne 48, 3) := by decide +kernel
theorem dX8_readDoor_64 : decode cX8_readDoor 64 = .ok (.aload_n 0, 1) := by decide +kernel
theorem dX8_readDoor_65 : decode cX8_readDoor 65 = .ok (.getfield 21, 3) := by decide +kernel
theorem dX8_readDoor_68 : decode cX8_readDoor 68 = .ok (.dup, 1) := by decide +kernel
theorem dX8_readDoor_69 : decode cX8_readDoor 69 = .ok (.getfield 42, 3) := by decide +kernel
theorem dX8_readDoor_72 : decode cX8_readDoor 72 = .ok (.iconst 1, 1) := by decide +kernel
theorem dX8_readDoor_73 : decode cX8_readDoor 73 = .ok (.iadd, 1) := by decide +kernel
theorem dX8_readDoor_74 : decode cX8_readDoor 74 = .ok (.putfield 42, 3) := by decide +kernel
theorem dX8_readDoor_77 : decode cX8_readDoor 77 = .ok (.aload_n 0, 1) := by decide +kernel
theorem dX8_readDoor_78 : decode cX8_readDoor 78 = .ok (.getfield 9, 3) := by decide +kernel
theorem dX8_readDoor_81 : decode cX8_readDoor 81 = .ok (.iload_n 2, 1) := by decide +kernel
theorem dX8_readDoor_82 : decode cX8_readDoor 82 = .ok (.invokevirtual 63, 3) := by decide +kernel
theorem dX8_readDoor_85 : decode cX8_readDoor 85 = .ok (.ifCond .ne 14, 3) := by decide +kernel
theorem dX8_readDoor_88 : decode cX8_readDoor 88 = .ok (.aload_n 0, 1) := by decide +kernel
theorem dX8_readDoor_89 : decode cX8_readDoor 89 = .ok (.getfield 21, 3) := by decide +kernel
theorem dX8_readDoor_92 : decode cX8_readDoor 92 = .ok (.bipush 7, 2) := by decide +kernel
theorem dX8_readDoor_94 : decode cX8_readDoor 94 = .ok (.iload_n 1, 1) := by decide +kernel
theorem dX8_readDoor_95 : decode cX8_readDoor 95 = .ok (.invokevirtual 46, 3) := by decide +kernel
theorem dX8_readDoor_98 : decode cX8_readDoor 98 = .ok (.ireturn, 1) := by decide +kernel
theorem dX8_readDoor_99 : decode cX8_readDoor 99 = .ok (.aload_n 0, 1) := by decide +kernel
theorem dX8_readDoor_100 : decode cX8_readDoor 100 = .ok (.getfield 9, 3) := by decide +kernel
theorem dX8_readDoor_103 : decode cX8_readDoor 103 = .ok (.iload_n 2, 1) := by decide +kernel
theorem dX8_readDoor_104 : decode cX8_readDoor 104 = .ok (.invokevirtual 66, 3) := by decide +kernel
theorem dX8_readDoor_107 : decode cX8_readDoor 107 = .ok (.iconst 1, 1) := by decide +kernel
theorem dX8_readDoor_108 : decode cX8_readDoor 108 = .ok (.ireturn, 1) := by decide +kernel
theorem dX8_readDoor_109 : decode cX8_readDoor 109 = .ok (.aload_n 0, 1) := by decide +kernel
theorem dX8_readDoor_110 : decode cX8_readDoor 110 = .ok (.getfield 21, 3) := by decide +kernel
theorem dX8_readDoor_113 : decode cX8_readDoor 113 = .ok (.bipush 58, 2) := by decide +kernel
theorem dX8_readDoor_115 : decode cX8_readDoor 115 = .ok (.invokevirtual 70, 3) := by decide +kernel
theorem dX8_readDoor_118 : decode cX8_readDoor 118 = .ok (.ifCond .eq 15, 3) := by decide +kernel
theorem dX8_readDoor_121 : decode cX8_readDoor 121 = .ok (.aload_n 0, 1) := by decide +kernel
theorem dX8_readDoor_122 : decode cX8_readDoor 122 = .ok (.iload_n 2, 1) := by decide +kernel
theorem dX8_readDoor_123 : decode cX8_readDoor 123 = .ok (.invokevirtual 73, 3) := by decide +kernel
theorem dX8_readDoor_126 : decode cX8_readDoor 126 = .ok (.ifCond .eq 7, 3) := by decide +kernel
theorem dX8_readDoor_129 : decode cX8_readDoor 129 = .ok (.iconst 1, 1) := by decide +kernel
theorem dX8_readDoor_130 : decode cX8_readDoor 130 = .ok (.goto 4, 3) := by decide +kernel
theorem dX8_readDoor_133 : decode cX8_readDoor 133 = .ok (.iconst 0, 1) := by decide +kernel
theorem dX8_readDoor_134 : decode cX8_readDoor 134 = .ok (.ireturn, 1) := by decide +kernel
theorem dX8_readLock_0 : decode cX8_readLock 0 = .ok (.aload_n 0, 1) := by decide +kernel
theorem dX8_readLock_1 : decode cX8_readLock 1 = .ok (.getfield 21, 3) := by decide +kernel
theorem dX8_readLock_4 : decode cX8_readLock 4 = .ok (.invokevirtual 25, 3) := by decide +kernel
theorem dX8_readLock_7 : decode cX8_readLock 7 = .ok (.istore_n 2, 1) := by decide +kernel
theorem dX8_readLock_8 : decode cX8_readLock 8 = .ok (.iload_n 2, 1) := by decide +kernel
theorem dX8_readLock_9 : decode cX8_readLock 9 = .ok (.invokestatic 76, 3) := by decide +kernel
theorem dX8_readLock_12 : decode cX8_readLock 12 = .ok (.ifCond .ne 11, 3) := by decide +kernel
theorem dX8_readLock_15 : decode cX8_readLock 15 = .ok (.aload_n 0, 1) := by decide +kernel
theorem dX8_readLock_16 : decode cX8_readLock 16 = .ok (.getfield 21, 3) := by decide +kernel
theorem dX8_readLock_19 : decode cX8_readLock 19 = .ok (.invokevirtual 39, 3) := by decide +kernel
theorem dX8_readLock_22 : decode cX8_readLock 22 = .ok (.ireturn, 1) := by decide +kernel
theorem dX8_readLock_23 : decode cX8_readLock 23 = .ok (.aload_n 0, 1) := by decide +kernel
theorem dX8_readLock_24 : decode cX8_readLock 24 = .ok (.getfield 21, 3) := by decide +kernel
theorem dX8_readLock_27 : decode cX8_readLock 27 = .ok (.dup, 1) := by decide +kernel
theorem dX8_readLock_28 : decode cX8_readLock 28 = .ok (.getfield 42, 3) := by decide +kernel
theorem dX8_readLock_31 : decode cX8_readLock 31 = .ok (.iconst 1, 1) := by decide +kernel
theorem dX8_readLock_32 : decode cX8_readLock 32 = .ok (.iadd, 1) := by decide +kernel
theorem dX8_readLock_33 : decode cX8_readLock 33 = .ok (.putfield 42, 3) := by decide +kernel
theorem dX8_readLock_36 : decode cX8_readLock 36 = .ok (.aload_n 0, 1) := by decide +kernel
theorem dX8_readLock_37 : decode cX8_readLock 37 = .ok (.getfield 21, 3) := by decide +kernel
theorem dX8_readLock_40 : decode cX8_readLock 40 = .ok (.iconst 2, 1) := by decide +kernel
theorem dX8_readLock_41 : decode cX8_readLock 41 = .ok (.invokevirtual 56, 3) := by decide +kernel
theorem dX8_readLock_44 : decode cX8_readLock 44 = .ok (.istore_n 3, 1) := by decide +kernel
theorem dX8_readLock_45 : decode cX8_readLock 45 = .ok (.iload_n 3, 1) := by decide +kernel
theorem dX8_readLock_46 : decode cX8_readLock 46 = .ok (.ifCond .ge 5, 3) := by decide +kernel
theorem dX8_readLock_49 : decode cX8_readLock 49 = .ok (.iconst 0, 1) := by decide +kernel
theorem dX8_readLock_50 : decode cX8_readLock 50 = .ok (.ireturn, 1) := by decide +kernel
theorem dX8_readLock_51 : decode cX8_readLock 51 = .ok (.aload_n 0, 1) := by decide +kernel
theorem dX8_readLock_52 : decode cX8_readLock 52 = .ok (.getfield 9, 3) := by decide +kernel
theorem dX8_readLock_55 : decode cX8_readLock 55 = .ok (.iload_n 1, 1) := by decide +kernel
theorem dX8_readLock_56 : decode cX8_readLock 56 = .ok (.iload_n 2, 1) := by decide +kernel
theorem dX8_readLock_57 : decode cX8_readLock 57 = .ok (.bipush 97, 2) := by decide +kernel
theorem dX8_readLock_59 : decode cX8_readLock 59 = .ok (.isub, 1) := by decide +kernel
theorem dX8_readLock_60 : decode cX8_readLock 60 = .ok (.iload_n 3, 1) := by decide +kernel
theorem dX8_readLock_61 : decode cX8_readLock 61 = .ok (.invokevirtual 79, 3) := by decide +kernel
theorem dX8_readLock_64 : decode cX8_readLock 64 = .ok (.iconst 1, 1) := by decide +kernel
theorem dX8_readLock_65 : decode cX8_readLock 65 = .ok (.ireturn, 1) := by decide +kernel
theorem dX9_init_0 : decode cX9_init 0 = .ok (.aload_n 0, 1) := by decide +kernel
theorem dX9_init_1 : decode cX9_init 1 = .ok (.invokespecial 3, 3) := by decide +kernel
theorem dX9_init_4 : decode cX9_init 4 = .ok (.aload_n 0, 1) := by decide +kernel
theorem dX9_init_5 : decode cX9_init 5 = .ok (.bipush 6, 2) := by decide +kernel
theorem dX9_init_7 : decode cX9_init 7 = .ok (.newarray .int, 2) := by decide +kernel
theorem dX9_init_9 : decode cX9_init 9 = .ok (.putfield 9, 3) := by decide +kernel
theorem dX9_init_12 : decode cX9_init 12 = .ok (.aload_n 0, 1) := by decide +kernel
theorem dX9_init_13 : decode cX9_init 13 = .ok (.sipush 129, 3) := by decide +kernel
theorem dX9_init_16 : decode cX9_init 16 = .ok (.newarray .long, 2) := by decide +kernel
theorem dX9_init_18 : decode cX9_init 18 = .ok (.putfield 15, 3) := by decide +kernel
theorem dX9_init_21 : decode cX9_init 21 = .ok (.return_, 1) := by decide +kernel
theorem dX9_waysToStand_0 : decode cX9_waysToStand 0 = .ok (.iconst 0, 1) := by decide +kernel
theorem dX9_waysToStand_1 : decode cX9_waysToStand 1 = .ok (.istore 4, 2) := by decide +kernel
theorem dX9_waysToStand_3 : decode cX9_waysToStand 3 = .ok (.iconst 0, 1) := by decide +kernel
theorem dX9_waysToStand_4 : decode cX9_waysToStand 4 = .ok (.istore 5, 2) := by decide +kernel
theorem dX9_waysToStand_6 : decode cX9_waysToStand 6 = .ok (.iload 5, 2) := by decide +kernel
theorem dX9_waysToStand_8 : decode cX9_waysToStand 8 = .ok (.iload_n 3, 1) := by decide +kernel
theorem dX9_waysToStand_9 : decode cX9_waysToStand 9 = .ok (.if_icmp .ge 68, 3) := by decide +kernel
theorem dX9_waysToStand_12 : decode cX9_waysToStand 12 = .ok (.iload 5, 2) := by decide +kernel
theorem dX9_waysToStand_14 : decode cX9_waysToStand 14 = .ok (.bipush 6, 2) := by decide +kernel
theorem dX9_waysToStand_16 : decode cX9_waysToStand 16 = .ok (.if_icmp .ge 61, 3) := by decide +kernel
theorem dX9_waysToStand_19 : decode cX9_waysToStand 19 = .ok (.aload_n 1, 1) := by decide +kernel
theorem dX9_waysToStand_20 : decode cX9_waysToStand 20 = .ok (.iload 5, 2) := by decide +kernel
theorem dX9_waysToStand_22 : decode cX9_waysToStand 22 = .ok (.invokevirtual 19, 3) := by decide +kernel
theorem dX9_waysToStand_25 : decode cX9_waysToStand 25 = .ok (.istore 6, 2) := by decide +kernel
theorem dX9_waysToStand_27 : decode cX9_waysToStand 27 = .ok (.aload_n 2, 1) := by decide +kernel
theorem dX9_waysToStand_28 : decode cX9_waysToStand 28 = .ok (.iload 6, 2) := by decide +kernel
theorem dX9_waysToStand_30 : decode cX9_waysToStand 30 = .ok (.invokevirtual 25, 3) := by decide +kernel
theorem dX9_waysToStand_33 : decode cX9_waysToStand 33 = .ok (.ifCond .eq 13, 3) := by decide +kernel
theorem dX9_waysToStand_36 : decode cX9_waysToStand 36 = .ok (.iload 4, 2) := by decide +kernel
theorem dX9_waysToStand_38 : decode cX9_waysToStand 38 = .ok (.iload 6, 2) := by decide +kernel
theorem dX9_waysToStand_40 : decode cX9_waysToStand 40 = .ok (.invokestatic 31, 3) := by decide +kernel
theorem dX9_waysToStand_43 : decode cX9_waysToStand 43 = .ok (.ifCond .eq 6, 3) := by decide +kernel
theorem dX9_waysToStand_46 : decode cX9_waysToStand 46 = .ok (.bipush (-3), 2) := by decide +kernel
theorem dX9_waysToStand_48 : decode cX9_waysToStand 48 = .ok (.ireturn, 1) := by decide +kernel
theorem dX9_waysToStand_49 : decode cX9_waysToStand 49 = .ok (.iload 4, 2) := by decide +kernel
theorem dX9_waysToStand_51 : decode cX9_waysToStand 51 = .ok (.iconst 1, 1) := by decide +kernel
theorem dX9_waysToStand_52 : decode cX9_waysToStand 52 = .ok (.iload 6, 2) := by decide +kernel
theorem dX9_waysToStand_54 : decode cX9_waysToStand 54 = .ok (.ishl, 1) := by decide +kernel
theorem dX9_waysToStand_55 : decode cX9_waysToStand 55 = .ok (.ior, 1) := by decide +kernel
theorem dX9_waysToStand_56 : decode cX9_waysToStand 56 = .ok (.istore 4, 2) := by decide +kernel
theorem dX9_waysToStand_58 : decode cX9_waysToStand 58 = .ok (.aload_n 0, 1) := by decide +kernel
theorem dX9_waysToStand_59 : decode cX9_waysToStand 59 = .ok (.getfield 9, 3) := by decide +kernel
theorem dX9_waysToStand_62 : decode cX9_waysToStand 62 = .ok (.iload 5, 2) := by decide +kernel
theorem dX9_waysToStand_64 : decode cX9_waysToStand 64 = .ok (.aload_n 2, 1) := by decide +kernel
theorem dX9_waysToStand_65 : decode cX9_waysToStand 65 = .ok (.iload 6, 2) := by decide +kernel
theorem dX9_waysToStand_67 : decode cX9_waysToStand 67 = .ok (.invokevirtual 35, 3) := by decide +kernel
theorem dX9_waysToStand_70 : decode cX9_waysToStand 70 = .ok (.iastore, 1) := by decide +kernel
theorem dX9_waysToStand_71 : decode cX9_waysToStand 71 = .ok (.iinc 5 1, 3) := by decide +kernel
theorem dX9_waysToStand_74 : decode cX9_waysToStand 74 = .ok (.goto (-68), 3) := by decide +kernel
theorem dX9_waysToStand_77 : decode cX9_waysToStand 77 = .ok (.iconst 0, 1) := by decide +kernel
theorem dX9_waysToStand_78 : decode cX9_waysToStand 78 = .ok (.istore 5, 2) := by decide +kernel
theorem dX9_waysToStand_80 : decode cX9_waysToStand 80 = .ok (.iconst 0, 1) := by decide +kernel
theorem dX9_waysToStand_81 : decode cX9_waysToStand 81 = .ok (.istore 6, 2) := by decide +kernel
theorem dX9_waysToStand_83 : decode cX9_waysToStand 83 = .ok (.iload 6, 2) := by decide +kernel
theorem dX9_waysToStand_85 : decode cX9_waysToStand 85 = .ok (.iload_n 3, 1) := by decide +kernel
theorem dX9_waysToStand_86 : decode cX9_waysToStand 86 = .ok (.if_icmp .ge 37, 3) := by decide +kernel
theorem dX9_waysToStand_89 : decode cX9_waysToStand 89 = .ok (.iload 6, 2) := by decide +kernel
theorem dX9_waysToStand_91 : decode cX9_waysToStand 91 = .ok (.bipush 6, 2) := by decide +kernel
theorem dX9_waysToStand_93 : decode cX9_waysToStand 93 = .ok (.if_icmp .ge 30, 3) := by decide +kernel
theorem dX9_waysToStand_96 : decode cX9_waysToStand 96 = .ok (.iload 5, 2) := by decide +kernel
theorem dX9_waysToStand_98 : decode cX9_waysToStand 98 = .ok (.aload_n 0, 1) := by decide +kernel
theorem dX9_waysToStand_99 : decode cX9_waysToStand 99 = .ok (.getfield 9, 3) := by decide +kernel
theorem dX9_waysToStand_102 : decode cX9_waysToStand 102 = .ok (.iload_n 3, 1) := by decide +kernel
theorem dX9_waysToStand_103 : decode cX9_waysToStand 103 = .ok (.iconst 1, 1) := by decide +kernel
theorem dX9_waysToStand_104 : decode cX9_waysToStand 104 = .ok (.iload 6, 2) := by decide +kernel
theorem dX9_waysToStand_106 : decode cX9_waysToStand 106 = .ok (.ishl, 1) := by decide +kernel
theorem dX9_waysToStand_107 : decode cX9_waysToStand 107 = .ok (.iload 6, 2) := by decide +kernel
theorem dX9_waysToStand_109 : decode cX9_waysToStand 109 = .ok (.iload 6, 2) := by decide +kernel
theorem dX9_waysToStand_111 : decode cX9_waysToStand 111 = .ok (.invokestatic 38, 3) := by decide +kernel
theorem dX9_waysToStand_114 : decode cX9_waysToStand 114 = .ok (.iadd, 1) := by decide +kernel
theorem dX9_waysToStand_115 : decode cX9_waysToStand 115 = .ok (.istore 5, 2) := by decide +kernel
theorem dX9_waysToStand_117 : decode cX9_waysToStand 117 = .ok (.iinc 6 1, 3) := by decide +kernel
theorem dX9_waysToStand_120 : decode cX9_waysToStand 120 = .ok (.goto (-37), 3) := by decide +kernel
theorem dX9_waysToStand_123 : decode cX9_waysToStand 123 = .ok (.iload 5, 2) := by decide +kernel
theorem dX9_waysToStand_125 : decode cX9_waysToStand 125 = .ok (.ireturn, 1) := by decide +kernel
theorem dX9_waysOn_0 : decode cX9_waysOn 0 = .ok (.iload_n 2, 1) := by decide +kernel
theorem dX9_waysOn_1 : decode cX9_waysOn 1 = .ok (.invokestatic 42, 3) := by decide +kernel
theorem dX9_waysOn_4 : decode cX9_waysOn 4 = .ok (.iload_n 1, 1) := by decide +kernel
theorem dX9_waysOn_5 : decode cX9_waysOn 5 = .ok (.if_icmp .lt 19, 3) := by decide +kernel
theorem dX9_waysOn_8 : decode cX9_waysOn 8 = .ok (.aload_n 0, 1) := by decide +kernel
theorem dX9_waysOn_9 : decode cX9_waysOn 9 = .ok (.iload 4, 2) := by decide +kernel
theorem dX9_waysOn_11 : decode cX9_waysOn 11 = .ok (.iload_n 3, 1) := by decide +kernel
theorem dX9_waysOn_12 : decode cX9_waysOn 12 = .ok (.invokestatic 47, 3) := by decide +kernel
theorem dX9_waysOn_15 : decode cX9_waysOn 15 = .ok (.ifCond .eq 7, 3) := by decide +kernel
theorem dX9_waysOn_18 : decode cX9_waysOn 18 = .ok (.iconst 1, 1) := by decide +kernel
theorem dX9_waysOn_19 : decode cX9_waysOn 19 = .ok (.goto 4, 3) := by decide +kernel
theorem dX9_waysOn_22 : decode cX9_waysOn 22 = .ok (.iconst 0, 1) := by decide +kernel
theorem dX9_waysOn_23 : decode cX9_waysOn 23 = .ok (.ireturn, 1) := by decide +kernel
theorem dX9_waysOn_24 : decode cX9_waysOn 24 = .ok (.iconst 0, 1) := by decide +kernel
theorem dX9_waysOn_25 : decode cX9_waysOn 25 = .ok (.istore 5, 2) := by decide +kernel
theorem dX9_waysOn_27 : decode cX9_waysOn 27 = .ok (.iconst 0, 1) := by decide +kernel
theorem dX9_waysOn_28 : decode cX9_waysOn 28 = .ok (.istore 6, 2) := by decide +kernel
theorem dX9_waysOn_30 : decode cX9_waysOn 30 = .ok (.iload 6, 2) := by decide +kernel
theorem dX9_waysOn_32 : decode cX9_waysOn 32 = .ok (.iload_n 1, 1) := by decide +kernel
theorem dX9_waysOn_33 : decode cX9_waysOn 33 = .ok (.if_icmp .ge 48, 3) := by decide +kernel
theorem dX9_waysOn_36 : decode cX9_waysOn 36 = .ok (.iload_n 2, 1) := by decide +kernel
theorem dX9_waysOn_37 : decode cX9_waysOn 37 = .ok (.iload 6, 2) := by decide +kernel
theorem dX9_waysOn_39 : decode cX9_waysOn 39 = .ok (.invokestatic 31, 3) := by decide +kernel
theorem dX9_waysOn_42 : decode cX9_waysOn 42 = .ok (.ifCond .ne 33, 3) := by decide +kernel
theorem dX9_waysOn_45 : decode cX9_waysOn 45 = .ok (.aload_n 0, 1) := by decide +kernel
theorem dX9_waysOn_46 : decode cX9_waysOn 46 = .ok (.iload 4, 2) := by decide +kernel
theorem dX9_waysOn_48 : decode cX9_waysOn 48 = .ok (.iload 6, 2) := by decide +kernel
theorem dX9_waysOn_50 : decode cX9_waysOn 50 = .ok (.invokestatic 47, 3) := by decide +kernel
theorem dX9_waysOn_53 : decode cX9_waysOn 53 = .ok (.ifCond .eq 22, 3) := by decide +kernel
theorem dX9_waysOn_56 : decode cX9_waysOn 56 = .ok (.iload 5, 2) := by decide +kernel
theorem dX9_waysOn_58 : decode cX9_waysOn 58 = .ok (.aload_n 0, 1) := by decide +kernel
theorem dX9_waysOn_59 : decode cX9_waysOn 59 = .ok (.iload_n 1, 1) := by decide +kernel
theorem dX9_waysOn_60 : decode cX9_waysOn 60 = .ok (.iload_n 2, 1) := by decide +kernel
theorem dX9_waysOn_61 : decode cX9_waysOn 61 = .ok (.iconst 1, 1) := by decide +kernel
theorem dX9_waysOn_62 : decode cX9_waysOn 62 = .ok (.iload 6, 2) := by decide +kernel
theorem dX9_waysOn_64 : decode cX9_waysOn 64 = .ok (.ishl, 1) := by decide +kernel
theorem dX9_waysOn_65 : decode cX9_waysOn 65 = .ok (.ior, 1) := by decide +kernel
theorem dX9_waysOn_66 : decode cX9_waysOn 66 = .ok (.iload_n 3, 1) := by decide +kernel
theorem dX9_waysOn_67 : decode cX9_waysOn 67 = .ok (.iload 6, 2) := by decide +kernel
theorem dX9_waysOn_69 : decode cX9_waysOn 69 = .ok (.invokestatic 38, 3) := by decide +kernel
theorem dX9_waysOn_72 : decode cX9_waysOn 72 = .ok (.iadd, 1) := by decide +kernel
theorem dX9_waysOn_73 : decode cX9_waysOn 73 = .ok (.istore 5, 2) := by decide +kernel
theorem dX9_waysOn_75 : decode cX9_waysOn 75 = .ok (.iinc 6 1, 3) := by decide +kernel
theorem dX9_waysOn_78 : decode cX9_waysOn 78 = .ok (.goto (-48), 3) := by decide +kernel
theorem dX9_waysOn_81 : decode cX9_waysOn 81 = .ok (.iload 5, 2) := by decide +kernel
theorem dX9_waysOn_83 : decode cX9_waysOn 83 = .ok (.ireturn, 1) := by decide +kernel
theorem dX9_canStandTogether_0 : decode cX9_canStandTogether 0 = .ok (.iload_n 1, 1) := by decide +kernel
theorem dX9_canStandTogether_1 : decode cX9_canStandTogether 1 = .ok (.ifCond .lt 19, 3) := by decide +kernel
theorem dX9_canStandTogether_4 : decode cX9_canStandTogether 4 = .ok (.iload_n 1, 1) := by decide +kernel
theorem dX9_canStandTogether_5 : decode cX9_canStandTogether 5 = .ok (.aload_n 0, 1) := by decide +kernel
theorem dX9_canStandTogether_6 : decode cX9_canStandTogether 6 = .ok (.arraylength, 1) := by decide +kernel
theorem dX9_canStandTogether_7 : decode cX9_canStandTogether 7 = .ok (.if_icmp .ge 13, 3) := by decide +kernel
theorem dX9_canStandTogether_10 : decode cX9_canStandTogether 10 = .ok (.iload_n 2, 1) := by decide +kernel
theorem dX9_canStandTogether_11 : decode cX9_canStandTogether 11 = .ok (.ifCond .lt 9, 3) := by decide +kernel
theorem dX9_canStandTogether_14 : decode cX9_canStandTogether 14 = .ok (.iload_n 2, 1) := by decide +kernel
theorem dX9_canStandTogether_15 : decode cX9_canStandTogether 15 = .ok (.aload_n 0, 1) := by decide +kernel
theorem dX9_canStandTogether_16 : decode cX9_canStandTogether 16 = .ok (.arraylength, 1) := by decide +kernel
theorem dX9_canStandTogether_17 : decode cX9_canStandTogether 17 = .ok (.if_icmp .lt 5, 3) := by decide +kernel
theorem dX9_canStandTogether_20 : decode cX9_canStandTogether 20 = .ok (.iconst 0, 1) := by decide +kernel
theorem dX9_canStandTogether_21 : decode cX9_canStandTogether 21 = .ok (.ireturn, 1) := by decide +kernel
theorem dX9_canStandTogether_22 : decode cX9_canStandTogether 22 = .ok (.aload_n 0, 1) := by decide +kernel
theorem dX9_canStandTogether_23 : decode cX9_canStandTogether 23 = .ok (.iload_n 1, 1) := by decide +kernel
theorem dX9_canStandTogether_24 : decode cX9_canStandTogether 24 = .ok (.iaload, 1) := by decide +kernel
theorem dX9_canStandTogether_25 : decode cX9_canStandTogether 25 = .ok (.ifCond .lt 12, 3) := by decide +kernel
theorem dX9_canStandTogether_28 : decode cX9_canStandTogether 28 = .ok (.aload_n 0, 1) := by decide +kernel
theorem dX9_canStandTogether_29 : decode cX9_canStandTogether 29 = .ok (.iload_n 1, 1) := by decide +kernel
theorem dX9_canStandTogether_30 : decode cX9_canStandTogether 30 = .ok (.iaload, 1) := by decide +kernel
theorem dX9_canStandTogether_31 : decode cX9_canStandTogether 31 = .ok (.aload_n 0, 1) := by decide +kernel
theorem dX9_canStandTogether_32 : decode cX9_canStandTogether 32 = .ok (.iload_n 2, 1) := by decide +kernel
theorem dX9_canStandTogether_33 : decode cX9_canStandTogether 33 = .ok (.iaload, 1) := by decide +kernel
theorem dX9_canStandTogether_34 : decode cX9_canStandTogether 34 = .ok (.if_icmp .eq 7, 3) := by decide +kernel
theorem dX9_canStandTogether_37 : decode cX9_canStandTogether 37 = .ok (.iconst 1, 1) := by decide +kernel
theorem dX9_canStandTogether_38 : decode cX9_canStandTogether 38 = .ok (.goto 4, 3) := by decide +kernel
theorem dX9_canStandTogether_41 : decode cX9_canStandTogether 41 = .ok (.iconst 0, 1) := by decide +kernel
theorem dX9_canStandTogether_42 : decode cX9_canStandTogether 42 = .ok (.ireturn, 1) := by decide +kernel
theorem dX9_wordsWeighing_0 : decode cX9_wordsWeighing 0 = .ok (.iconst 0, 1) := by decide +kernel
theorem dX9_wordsWeighing_1 : decode cX9_wordsWeighing 1 = .ok (.istore 4, 2) := by decide +kernel
theorem dX9_wordsWeighing_3 : decode cX9_wordsWeighing 3 = .ok (.iload 4, 2) := by decide +kernel
theorem dX9_wordsWeighing_5 : decode cX9_wordsWeighing 5 = .ok (.aload_n 0, 1) := by decide +kernel
theorem dX9_wordsWeighing_6 : decode cX9_wordsWeighing 6 = .ok (.getfield 15, 3) := by decide +kernel
theorem dX9_wordsWeighing_9 : decode cX9_wordsWeighing 9 = .ok (.arraylength, 1) := by decide +kernel
theorem dX9_wordsWeighing_10 : decode cX9_wordsWeighing 10 = .ok (.if_icmp .ge 17, 3) := by decide +kernel
theorem dX9_wordsWeighing_13 : decode cX9_wordsWeighing 13 = .ok (.aload_n 0, 1) := by decide +kernel
theorem dX9_wordsWeighing_14 : decode cX9_wordsWeighing 14 = .ok (.getfield 15, 3) := by decide +kernel
theorem dX9_wordsWeighing_17 : decode cX9_wordsWeighing 17 = .ok (.iload 4, 2) := by decide +kernel
theorem dX9_wordsWeighing_19 : decode cX9_wordsWeighing 19 = .ok (.lconst 0, 1) := by decide +kernel
theorem dX9_wordsWeighing_20 : decode cX9_wordsWeighing 20 = .ok (.lastore, 1) := by decide +kernel
theorem dX9_wordsWeighing_21 : decode cX9_wordsWeighing 21 = .ok (.iinc 4 1, 3) := by decide +kernel
theorem dX9_wordsWeighing_24 : decode cX9_wordsWeighing 24 = .ok (.goto (-21), 3) := by decide +kernel
theorem dX9_wordsWeighing_27 : decode cX9_wordsWeighing 27 = .ok (.aload_n 0, 1) := by decide +kernel
theorem dX9_wordsWeighing_28 : decode cX9_wordsWeighing 28 = .ok (.getfield 15, 3) := by decide +kernel
theorem dX9_wordsWeighing_31 : decode cX9_wordsWeighing 31 = .ok (.iconst 0, 1) := by decide +kernel
theorem dX9_wordsWeighing_32 : decode cX9_wordsWeighing 32 = .ok (.lconst 1, 1) := by decide +kernel
theorem dX9_wordsWeighing_33 : decode cX9_wordsWeighing 33 = .ok (.lastore, 1) := by decide +kernel
theorem dX9_wordsWeighing_34 : decode cX9_wordsWeighing 34 = .ok (.iconst 0, 1) := by decide +kernel
theorem dX9_wordsWeighing_35 : decode cX9_wordsWeighing 35 = .ok (.istore 4, 2) := by decide +kernel
theorem dX9_wordsWeighing_37 : decode cX9_wordsWeighing 37 = .ok (.iload 4, 2) := by decide +kernel
theorem dX9_wordsWeighing_39 : decode cX9_wordsWeighing 39 = .ok (.iload_n 1, 1) := by decide +kernel
theorem dX9_wordsWeighing_40 : decode cX9_wordsWeighing 40 = .ok (.if_icmp .ge 43, 3) := by decide +kernel
theorem dX9_wordsWeighing_43 : decode cX9_wordsWeighing 43 = .ok (.aload_n 0, 1) := by decide +kernel
theorem dX9_wordsWeighing_44 : decode cX9_wordsWeighing 44 = .ok (.getfield 15, 3) := by decide +kernel
theorem dX9_wordsWeighing_47 : decode cX9_wordsWeighing 47 = .ok (.arraylength, 1) := by decide +kernel
theorem dX9_wordsWeighing_48 : decode cX9_wordsWeighing 48 = .ok (.iconst 1, 1) := by decide +kernel
theorem dX9_wordsWeighing_49 : decode cX9_wordsWeighing 49 = .ok (.isub, 1) := by decide +kernel
theorem dX9_wordsWeighing_50 : decode cX9_wordsWeighing 50 = .ok (.istore 5, 2) := by decide +kernel
theorem dX9_wordsWeighing_52 : decode cX9_wordsWeighing 52 = .ok (.iload 5, 2) := by decide +kernel
theorem dX9_wordsWeighing_54 : decode cX9_wordsWeighing 54 = .ok (.ifCond .lt 23, 3) := by decide +kernel
theorem dX9_wordsWeighing_57 : decode cX9_wordsWeighing 57 = .ok (.aload_n 0, 1) := by decide +kernel
theorem dX9_wordsWeighing_58 : decode cX9_wordsWeighing 58 = .ok (.getfield 15, 3) := by decide +kernel
theorem dX9_wordsWeighing_61 : decode cX9_wordsWeighing 61 = .ok (.iload 5, 2) := by decide +kernel
theorem dX9_wordsWeighing_63 : decode cX9_wordsWeighing 63 = .ok (.aload_n 0, 1) := by decide +kernel
theorem dX9_wordsWeighing_64 : decode cX9_wordsWeighing 64 = .ok (.iload_n 2, 1) := by decide +kernel
theorem dX9_wordsWeighing_65 : decode cX9_wordsWeighing 65 = .ok (.iload 5, 2) := by decide +kernel
theorem dX9_wordsWeighing_67 : decode cX9_wordsWeighing 67 = .ok (.invokevirtual 51, 3) := by decide +kernel
theorem dX9_wordsWeighing_70 : decode cX9_wordsWeighing 70 = .ok (.lastore, 1) := by decide +kernel
theorem dX9_wordsWeighing_71 : decode cX9_wordsWeighing 71 = .ok (.iinc 5 (-1), 3) := by decide +kernel
theorem dX9_wordsWeighing_74 : decode cX9_wordsWeighing 74 = .ok (.goto (-22), 3) := by decide +kernel
theorem dX9_wordsWeighing_77 : decode cX9_wordsWeighing 77 = .ok (.iinc 4 1, 3) := by decide +kernel
theorem dX9_wordsWeighing_80 : decode cX9_wordsWeighing 80 = .ok (.goto (-43), 3) := by decide +kernel
theorem dX9_wordsWeighing_83 : decode cX9_wordsWeighing 83 = .ok (.iload_n 3, 1) := by decide +kernel
theorem dX9_wordsWeighing_84 : decode cX9_wordsWeighing 84 = .ok (.ifCond .lt 21, 3) := by decide +kernel
theorem dX9_wordsWeighing_87 : decode cX9_wordsWeighing 87 = .ok (.iload_n 3, 1) := by decide +kernel
theorem dX9_wordsWeighing_88 : decode cX9_wordsWeighing 88 = .ok (.aload_n 0, 1) := by decide +kernel
theorem dX9_wordsWeighing_89 : decode cX9_wordsWeighing 89 = .ok (.getfield 15, 3) := by decide +kernel
theorem dX9_wordsWeighing_92 : decode cX9_wordsWeighing 92 = .ok (.arraylength, 1) := by decide +kernel
theorem dX9_wordsWeighing_93 : decode cX9_wordsWeighing 93 = .ok (.if_icmp .ge 12, 3) := by decide +kernel
theorem dX9_wordsWeighing_96 : decode cX9_wordsWeighing 96 = .ok (.aload_n 0, 1) := by decide +kernel
theorem dX9_wordsWeighing_97 : decode cX9_wordsWeighing 97 = .ok (.getfield 15, 3) := by decide +kernel
theorem dX9_wordsWeighing_100 : decode cX9_wordsWeighing 100 = .ok (.iload_n 3, 1) := by decide +kernel
theorem dX9_wordsWeighing_101 : decode cX9_wordsWeighing 101 = .ok (.laload, 1) := by decide +kernel
theorem dX9_wordsWeighing_102 : decode cX9_wordsWeighing 102 = .ok (.goto 4, 3) := by decide +kernel
theorem dX9_wordsWeighing_105 : decode cX9_wordsWeighing 105 = .ok (.lconst 0, 1) := by decide +kernel
theorem dX9_wordsWeighing_106 : decode cX9_wordsWeighing 106 = .ok (.lreturn, 1) := by decide +kernel
theorem dX9_wordsWithOneMore_0 : decode cX9_wordsWithOneMore 0 = .ok (.lconst 0, 1) := by decide +kernel
theorem dX9_wordsWithOneMore_1 : decode cX9_wordsWithOneMore 1 = .ok (.lstore_n 3, 1) := by decide +kernel
theorem dX9_wordsWithOneMore_2 : decode cX9_wordsWithOneMore 2 = .ok (.iconst 0, 1) := by decide +kernel
theorem dX9_wordsWithOneMore_3 : decode cX9_wordsWithOneMore 3 = .ok (.istore 5, 2) := by decide +kernel
theorem dX9_wordsWithOneMore_5 : decode cX9_wordsWithOneMore 5 = .ok (.iload 5, 2) := by decide +kernel
theorem dX9_wordsWithOneMore_7 : decode cX9_wordsWithOneMore 7 = .ok (.bipush 16, 2) := by decide +kernel
theorem dX9_wordsWithOneMore_9 : decode cX9_wordsWithOneMore 9 = .ok (.if_icmp .ge 51, 3) := by decide +kernel
theorem dX9_wordsWithOneMore_12 : decode cX9_wordsWithOneMore 12 = .ok (.iload_n 2, 1) := by decide +kernel
theorem dX9_wordsWithOneMore_13 : decode cX9_wordsWithOneMore 13 = .ok (.iload 5, 2) := by decide +kernel
theorem dX9_wordsWithOneMore_15 : decode cX9_wordsWithOneMore 15 = .ok (.iconst 1, 1) := by decide +kernel
theorem dX9_wordsWithOneMore_16 : decode cX9_wordsWithOneMore 16 = .ok (.iadd, 1) := by decide +kernel
theorem dX9_wordsWithOneMore_17 : decode cX9_wordsWithOneMore 17 = .ok (.isub, 1) := by decide +kernel
theorem dX9_wordsWithOneMore_18 : decode cX9_wordsWithOneMore 18 = .ok (.istore 6, 2) := by decide +kernel
theorem dX9_wordsWithOneMore_20 : decode cX9_wordsWithOneMore 20 = .ok (.iload_n 1, 1) := by decide +kernel
theorem dX9_wordsWithOneMore_21 : decode cX9_wordsWithOneMore 21 = .ok (.iload 5, 2) := by decide +kernel
theorem dX9_wordsWithOneMore_23 : decode cX9_wordsWithOneMore 23 = .ok (.invokestatic 31, 3) := by decide +kernel
theorem dX9_wordsWithOneMore_26 : decode cX9_wordsWithOneMore 26 = .ok (.ifCond .eq 28, 3) := by decide +kernel
theorem dX9_wordsWithOneMore_29 : decode cX9_wordsWithOneMore 29 = .ok (.iload 6, 2) := by decide +kernel
theorem dX9_wordsWithOneMore_31 : decode cX9_wordsWithOneMore 31 = .ok (.ifCond .lt 23, 3) := by decide +kernel
theorem dX9_wordsWithOneMore_34 : decode cX9_wordsWithOneMore 34 = .ok (.iload 6, 2) := by decide +kernel
theorem dX9_wordsWithOneMore_36 : decode cX9_wordsWithOneMore 36 = .ok (.aload_n 0, 1) := by decide +kernel
theorem dX9_wordsWithOneMore_37 : decode cX9_wordsWithOneMore 37 = .ok (.getfield 15, 3) := by decide +kernel
theorem dX9_wordsWithOneMore_40 : decode cX9_wordsWithOneMore 40 = .ok (.arraylength, 1) := by decide +kernel
theorem dX9_wordsWithOneMore_41 : decode cX9_wordsWithOneMore 41 = .ok (.if_icmp .ge 13, 3) := by decide +kernel
theorem dX9_wordsWithOneMore_44 : decode cX9_wordsWithOneMore 44 = .ok (.lload_n 3, 1) := by decide +kernel
theorem dX9_wordsWithOneMore_45 : decode cX9_wordsWithOneMore 45 = .ok (.aload_n 0, 1) := by decide +kernel
theorem dX9_wordsWithOneMore_46 : decode cX9_wordsWithOneMore 46 = .ok (.getfield 15, 3) := by decide +kernel
theorem dX9_wordsWithOneMore_49 : decode cX9_wordsWithOneMore 49 = .ok (.iload 6, 2) := by decide +kernel
theorem dX9_wordsWithOneMore_51 : decode cX9_wordsWithOneMore 51 = .ok (.laload, 1) := by decide +kernel
theorem dX9_wordsWithOneMore_52 : decode cX9_wordsWithOneMore 52 = .ok (.ladd, 1) := by decide +kernel
theorem dX9_wordsWithOneMore_53 : decode cX9_wordsWithOneMore 53 = .ok (.lstore_n 3, 1) := by decide +kernel
theorem dX9_wordsWithOneMore_54 : decode cX9_wordsWithOneMore 54 = .ok (.iinc 5 1, 3) := by decide +kernel
theorem dX9_wordsWithOneMore_57 : decode cX9_wordsWithOneMore 57 = .ok (.goto (-52), 3) := by decide +kernel
theorem dX9_wordsWithOneMore_60 : decode cX9_wordsWithOneMore 60 = .ok (.lload_n 3, 1) := by decide +kernel
theorem dX9_wordsWithOneMore_61 : decode cX9_wordsWithOneMore 61 = .ok (.lreturn, 1) := by decide +kernel
theorem dX9_leastDreadBehindRooms_0 : decode cX9_leastDreadBehindRooms 0 = .ok (.iconst 0, 1) := by decide +kernel
theorem dX9_leastDreadBehindRooms_1 : decode cX9_leastDreadBehindRooms 1 = .ok (.iconst 2, 1) := by decide +kernel
theorem dX9_leastDreadBehindRooms_2 : decode cX9_leastDreadBehindRooms 2 = .ok (.aload_n 0, 1) := by decide +kernel
theorem dX9_leastDreadBehindRooms_3 : decode cX9_leastDreadBehindRooms 3 = .ok (.iload_n 1, 1) := by decide +kernel
theorem dX9_leastDreadBehindRooms_4 : decode cX9_leastDreadBehindRooms 4 = .ok (.invokestatic 55, 3) := by decide +kernel
theorem dX9_leastDreadBehindRooms_7 : decode cX9_leastDreadBehindRooms 7 = .ok (.imul, 1) := by decide +kernel
theorem dX9_leastDreadBehindRooms_8 : decode cX9_leastDreadBehindRooms 8 = .ok (.iload_n 1, 1) := by decide +kernel
theorem dX9_leastDreadBehindRooms_9 : decode cX9_leastDreadBehindRooms 9 = .ok (.isub, 1) := by decide +kernel
theorem dX9_leastDreadBehindRooms_10 : decode cX9_leastDreadBehindRooms 10 = .ok (.iconst 1, 1) := by decide +kernel
theorem dX9_leastDreadBehindRooms_11 : decode cX9_leastDreadBehindRooms 11 = .ok (.isub, 1) := by decide +kernel
theorem dX9_leastDreadBehindRooms_12 : decode cX9_leastDreadBehindRooms 12 = .ok (.invokestatic 59, 3) := by decide +kernel
theorem dX9_leastDreadBehindRooms_15 : decode cX9_leastDreadBehindRooms 15 = .ok (.istore_n 3, 1) := by decide +kernel
theorem dX9_leastDreadBehindRooms_16 : decode cX9_leastDreadBehindRooms 16 = .ok (.iload_n 2, 1) := by decide +kernel
theorem dX9_leastDreadBehindRooms_17 : decode cX9_leastDreadBehindRooms 17 = .ok (.istore 4, 2) := by decide +kernel
theorem dX9_leastDreadBehindRooms_19 : decode cX9_leastDreadBehindRooms 19 = .ok (.iconst 1, 1) := by decide +kernel
theorem dX9_leastDreadBehindRooms_20 : decode cX9_leastDreadBehindRooms 20 = .ok (.istore 5, 2) := by decide +kernel
theorem dX9_leastDreadBehindRooms_22 : decode cX9_leastDreadBehindRooms 22 = .ok (.iload 5, 2) := by decide +kernel
theorem dX9_leastDreadBehindRooms_24 : decode cX9_leastDreadBehindRooms 24 = .ok (.iload_n 1, 1) := by decide +kernel
theorem dX9_leastDreadBehindRooms_25 : decode cX9_leastDreadBehindRooms 25 = .ok (.if_icmp .ge 35, 3) := by decide +kernel
theorem dX9_leastDreadBehindRooms_28 : decode cX9_leastDreadBehindRooms 28 = .ok (.iload 5, 2) := by decide +kernel
theorem dX9_leastDreadBehindRooms_30 : decode cX9_leastDreadBehindRooms 30 = .ok (.iload_n 3, 1) := by decide +kernel
theorem dX9_leastDreadBehindRooms_31 : decode cX9_leastDreadBehindRooms 31 = .ok (.if_icmp .gt 11, 3) := by decide +kernel
theorem dX9_leastDreadBehindRooms_34 : decode cX9_leastDreadBehindRooms 34 = .ok (.iload 4, 2) := by decide +kernel
theorem dX9_leastDreadBehindRooms_36 : decode cX9_leastDreadBehindRooms 36 = .ok (.bipush 7, 2) := by decide +kernel
theorem dX9_leastDreadBehindRooms_38 : decode cX9_leastDreadBehindRooms 38 = .ok (.iadd, 1) := by decide +kernel
theorem dX9_leastDreadBehindRooms_39 : decode cX9_leastDreadBehindRooms 39 = .ok (.goto 7, 3) := by decide +kernel
theorem dX9_leastDreadBehindRooms_42 : decode cX9_leastDreadBehindRooms 42 = .ok (.iload 4, 2) := by decide +kernel
theorem dX9_leastDreadBehindRooms_44 : decode cX9_leastDreadBehindRooms 44 = .ok (.iconst 5, 1) := by decide +kernel
theorem dX9_leastDreadBehindRooms_45 : decode cX9_leastDreadBehindRooms 45 = .ok (.isub, 1) := by decide +kernel
theorem dX9_leastDreadBehindRooms_46 : decode cX9_leastDreadBehindRooms 46 = .ok (.iconst 0, 1) := by decide +kernel
theorem dX9_leastDreadBehindRooms_47 : decode cX9_leastDreadBehindRooms 47 = .ok (.bipush 99, 2) := by decide +kernel
theorem dX9_leastDreadBehindRooms_49 : decode cX9_leastDreadBehindRooms 49 = .ok (.invokestatic 65, 3) := by decide +kernel
theorem dX9_leastDreadBehindRooms_52 : decode cX9_leastDreadBehindRooms 52 = .ok (.istore 4, 2) := by decide +kernel
theorem dX9_leastDreadBehindRooms_54 : decode cX9_leastDreadBehindRooms 54 = .ok (.iinc 5 1, 3) := by decide +kernel
theorem dX9_leastDreadBehindRooms_57 : decode cX9_leastDreadBehindRooms 57 = .ok (.goto (-35), 3) := by decide +kernel
theorem dX9_leastDreadBehindRooms_60 : decode cX9_leastDreadBehindRooms 60 = .ok (.iload 4, 2) := by decide +kernel
theorem dX9_leastDreadBehindRooms_62 : decode cX9_leastDreadBehindRooms 62 = .ok (.ireturn, 1) := by decide +kernel
theorem dX9_roomsOfCommonest_0 : decode cX9_roomsOfCommonest 0 = .ok (.iconst 0, 1) := by decide +kernel
theorem dX9_roomsOfCommonest_1 : decode cX9_roomsOfCommonest 1 = .ok (.istore_n 2, 1) := by decide +kernel
theorem dX9_roomsOfCommonest_2 : decode cX9_roomsOfCommonest 2 = .ok (.iconst 0, 1) := by decide +kernel
theorem dX9_roomsOfCommonest_3 : decode cX9_roomsOfCommonest 3 = .ok (.istore_n 3, 1) := by decide +kernel
theorem dX9_roomsOfCommonest_4 : decode cX9_roomsOfCommonest 4 = .ok (.iload_n 3, 1) := by decide +kernel
theorem dX9_roomsOfCommonest_5 : decode cX9_roomsOfCommonest 5 = .ok (.bipush 16, 2) := by decide +kernel
theorem dX9_roomsOfCommonest_7 : decode cX9_roomsOfCommonest 7 = .ok (.if_icmp .ge 47, 3) := by decide +kernel
theorem dX9_roomsOfCommonest_10 : decode cX9_roomsOfCommonest 10 = .ok (.iconst 0, 1) := by decide +kernel
theorem dX9_roomsOfCommonest_11 : decode cX9_roomsOfCommonest 11 = .ok (.istore 4, 2) := by decide +kernel
theorem dX9_roomsOfCommonest_13 : decode cX9_roomsOfCommonest 13 = .ok (.iconst 0, 1) := by decide +kernel
theorem dX9_roomsOfCommonest_14 : decode cX9_roomsOfCommonest 14 = .ok (.istore 5, 2) := by decide +kernel
theorem dX9_roomsOfCommonest_16 : decode cX9_roomsOfCommonest 16 = .ok (.iload 5, 2) := by decide +kernel
theorem dX9_roomsOfCommonest_18 : decode cX9_roomsOfCommonest 18 = .ok (.iload_n 1, 1) := by decide +kernel
theorem dX9_roomsOfCommonest_19 : decode cX9_roomsOfCommonest 19 = .ok (.if_icmp .ge 22, 3) := by decide +kernel
theorem dX9_roomsOfCommonest_22 : decode cX9_roomsOfCommonest 22 = .ok (.aload_n 0, 1) := by decide +kernel
theorem dX9_roomsOfCommonest_23 : decode cX9_roomsOfCommonest 23 = .ok (.iload 5, 2) := by decide +kernel
