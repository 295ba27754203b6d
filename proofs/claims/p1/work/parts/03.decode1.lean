theorem dX0_init_0 : decode cX0_init 0 = .ok (.aload_n 0, 1) := by decide +kernel
theorem dX0_init_1 : decode cX0_init 1 = .ok (.invokespecial 3, 3) := by decide +kernel
theorem dX0_init_4 : decode cX0_init 4 = .ok (.aload_n 0, 1) := by decide +kernel
theorem dX0_init_5 : decode cX0_init 5 = .ok (.bipush 12, 2) := by decide +kernel
theorem dX0_init_7 : decode cX0_init 7 = .ok (.bipush 16, 2) := by decide +kernel
theorem dX0_init_9 : decode cX0_init 9 = .ok (.multianewarray 9 2, 4) := by decide +kernel
theorem dX0_init_13 : decode cX0_init 13 = .ok (.putfield 11, 3) := by decide +kernel
theorem dX0_init_16 : decode cX0_init 16 = .ok (.aload_n 0, 1) := by decide +kernel
theorem dX0_init_17 : decode cX0_init 17 = .ok (.bipush 12, 2) := by decide +kernel
theorem dX0_init_19 : decode cX0_init 19 = .ok (.newarray .int, 2) := by decide +kernel
theorem dX0_init_21 : decode cX0_init 21 = .ok (.putfield 16, 3) := by decide +kernel
theorem dX0_init_24 : decode cX0_init 24 = .ok (.aload_n 0, 1) := by decide +kernel
theorem dX0_init_25 : decode cX0_init 25 = .ok (.bipush 16, 2) := by decide +kernel
theorem dX0_init_27 : decode cX0_init 27 = .ok (.newarray .int, 2) := by decide +kernel
theorem dX0_init_29 : decode cX0_init 29 = .ok (.putfield 20, 3) := by decide +kernel
theorem dX0_init_32 : decode cX0_init 32 = .ok (.aload_n 0, 1) := by decide +kernel
theorem dX0_init_33 : decode cX0_init 33 = .ok (.bipush 16, 2) := by decide +kernel
theorem dX0_init_35 : decode cX0_init 35 = .ok (.newarray .int, 2) := by decide +kernel
theorem dX0_init_37 : decode cX0_init 37 = .ok (.putfield 23, 3) := by decide +kernel
theorem dX0_init_40 : decode cX0_init 40 = .ok (.aload_n 0, 1) := by decide +kernel
theorem dX0_init_41 : decode cX0_init 41 = .ok (.bipush 16, 2) := by decide +kernel
theorem dX0_init_43 : decode cX0_init 43 = .ok (.newarray .int, 2) := by decide +kernel
theorem dX0_init_45 : decode cX0_init 45 = .ok (.putfield 26, 3) := by decide +kernel
theorem dX0_init_48 : decode cX0_init 48 = .ok (.aload_n 0, 1) := by decide +kernel
theorem dX0_init_49 : decode cX0_init 49 = .ok (.iconst 0, 1) := by decide +kernel
theorem dX0_init_50 : decode cX0_init 50 = .ok (.putfield 29, 3) := by decide +kernel
theorem dX0_init_53 : decode cX0_init 53 = .ok (.aload_n 0, 1) := by decide +kernel
theorem dX0_init_54 : decode cX0_init 54 = .ok (.iconst 0, 1) := by decide +kernel
theorem dX0_init_55 : decode cX0_init 55 = .ok (.putfield 33, 3) := by decide +kernel
theorem dX0_init_58 : decode cX0_init 58 = .ok (.aload_n 0, 1) := by decide +kernel
theorem dX0_init_59 : decode cX0_init 59 = .ok (.iconst 0, 1) := by decide +kernel
theorem dX0_init_60 : decode cX0_init 60 = .ok (.putfield 36, 3) := by decide +kernel
theorem dX0_init_63 : decode cX0_init 63 = .ok (.aload_n 0, 1) := by decide +kernel
theorem dX0_init_64 : decode cX0_init 64 = .ok (.iconst 1, 1) := by decide +kernel
theorem dX0_init_65 : decode cX0_init 65 = .ok (.putfield 39, 3) := by decide +kernel
theorem dX0_init_68 : decode cX0_init 68 = .ok (.return_, 1) := by decide +kernel
theorem dX0_isPerson_0 : decode cX0_isPerson 0 = .ok (.iload_n 1, 1) := by decide +kernel
theorem dX0_isPerson_1 : decode cX0_isPerson 1 = .ok (.ifCond .lt 24, 3) := by decide +kernel
theorem dX0_isPerson_4 : decode cX0_isPerson 4 = .ok (.iload_n 1, 1) := by decide +kernel
theorem dX0_isPerson_5 : decode cX0_isPerson 5 = .ok (.bipush 12, 2) := by decide +kernel
theorem dX0_isPerson_7 : decode cX0_isPerson 7 = .ok (.if_icmp .ge 18, 3) := by decide +kernel
theorem dX0_isPerson_10 : decode cX0_isPerson 10 = .ok (.aload_n 0, 1) := by decide +kernel
theorem dX0_isPerson_11 : decode cX0_isPerson 11 = .ok (.getfield 29, 3) := by decide +kernel
theorem dX0_isPerson_14 : decode cX0_isPerson 14 = .ok (.iload_n 1, 1) := by decide +kernel
theorem dX0_isPerson_15 : decode cX0_isPerson 15 = .ok (.invokestatic 42, 3) := by decide +kernel
theorem dX0_isPerson_18 : decode cX0_isPerson 18 = .ok (.ifCond .eq 7, 3) := by decide +kernel
theorem dX0_isPerson_21 : decode cX0_isPerson 21 = .ok (.iconst 1, 1) := by decide +kernel
theorem dX0_isPerson_22 : decode cX0_isPerson 22 = .ok (.goto 4, 3) := by decide +kernel
theorem dX0_isPerson_25 : decode cX0_isPerson 25 = .ok (.iconst 0, 1) := by decide +kernel
theorem dX0_isPerson_26 : decode cX0_isPerson 26 = .ok (.ireturn, 1) := by decide +kernel
theorem dX0_isDoor_0 : decode cX0_isDoor 0 = .ok (.iload_n 1, 1) := by decide +kernel
theorem dX0_isDoor_1 : decode cX0_isDoor 1 = .ok (.ifCond .lt 24, 3) := by decide +kernel
theorem dX0_isDoor_4 : decode cX0_isDoor 4 = .ok (.iload_n 1, 1) := by decide +kernel
theorem dX0_isDoor_5 : decode cX0_isDoor 5 = .ok (.bipush 16, 2) := by decide +kernel
theorem dX0_isDoor_7 : decode cX0_isDoor 7 = .ok (.if_icmp .ge 18, 3) := by decide +kernel
theorem dX0_isDoor_10 : decode cX0_isDoor 10 = .ok (.aload_n 0, 1) := by decide +kernel
theorem dX0_isDoor_11 : decode cX0_isDoor 11 = .ok (.getfield 33, 3) := by decide +kernel
theorem dX0_isDoor_14 : decode cX0_isDoor 14 = .ok (.iload_n 1, 1) := by decide +kernel
theorem dX0_isDoor_15 : decode cX0_isDoor 15 = .ok (.invokestatic 42, 3) := by decide +kernel
theorem dX0_isDoor_18 : decode cX0_isDoor 18 = .ok (.ifCond .eq 7, 3) := by decide +kernel
theorem dX0_isDoor_21 : decode cX0_isDoor 21 = .ok (.iconst 1, 1) := by decide +kernel
theorem dX0_isDoor_22 : decode cX0_isDoor 22 = .ok (.goto 4, 3) := by decide +kernel
theorem dX0_isDoor_25 : decode cX0_isDoor 25 = .ok (.iconst 0, 1) := by decide +kernel
theorem dX0_isDoor_26 : decode cX0_isDoor 26 = .ok (.ireturn, 1) := by decide +kernel
theorem dX0_dreadOf_0 : decode cX0_dreadOf 0 = .ok (.iload_n 1, 1) := by decide +kernel
theorem dX0_dreadOf_1 : decode cX0_dreadOf 1 = .ok (.ifCond .lt 19, 3) := by decide +kernel
theorem dX0_dreadOf_4 : decode cX0_dreadOf 4 = .ok (.iload_n 1, 1) := by decide +kernel
theorem dX0_dreadOf_5 : decode cX0_dreadOf 5 = .ok (.bipush 12, 2) := by decide +kernel
theorem dX0_dreadOf_7 : decode cX0_dreadOf 7 = .ok (.if_icmp .ge 13, 3) := by decide +kernel
theorem dX0_dreadOf_10 : decode cX0_dreadOf 10 = .ok (.iload_n 2, 1) := by decide +kernel
theorem dX0_dreadOf_11 : decode cX0_dreadOf 11 = .ok (.ifCond .lt 9, 3) := by decide +kernel
theorem dX0_dreadOf_14 : decode cX0_dreadOf 14 = .ok (.iload_n 2, 1) := by decide +kernel
theorem dX0_dreadOf_15 : decode cX0_dreadOf 15 = .ok (.bipush 16, 2) := by decide +kernel
theorem dX0_dreadOf_17 : decode cX0_dreadOf 17 = .ok (.if_icmp .lt 5, 3) := by decide +kernel
theorem dX0_dreadOf_20 : decode cX0_dreadOf 20 = .ok (.iconst 0, 1) := by decide +kernel
theorem dX0_dreadOf_21 : decode cX0_dreadOf 21 = .ok (.ireturn, 1) := by decide +kernel
theorem dX0_dreadOf_22 : decode cX0_dreadOf 22 = .ok (.aload_n 0, 1) := by decide +kernel
theorem dX0_dreadOf_23 : decode cX0_dreadOf 23 = .ok (.getfield 11, 3) := by decide +kernel
theorem dX0_dreadOf_26 : decode cX0_dreadOf 26 = .ok (.iload_n 1, 1) := by decide +kernel
theorem dX0_dreadOf_27 : decode cX0_dreadOf 27 = .ok (.aaload, 1) := by decide +kernel
theorem dX0_dreadOf_28 : decode cX0_dreadOf 28 = .ok (.iload_n 2, 1) := by decide +kernel
theorem dX0_dreadOf_29 : decode cX0_dreadOf 29 = .ok (.iaload, 1) := by decide +kernel
theorem dX0_dreadOf_30 : decode cX0_dreadOf 30 = .ok (.ireturn, 1) := by decide +kernel
theorem dX0_greatestDread_0 : decode cX0_greatestDread 0 = .ok (.iconst 0, 1) := by decide +kernel
theorem dX0_greatestDread_1 : decode cX0_greatestDread 1 = .ok (.istore_n 2, 1) := by decide +kernel
theorem dX0_greatestDread_2 : decode cX0_greatestDread 2 = .ok (.iconst 0, 1) := by decide +kernel
theorem dX0_greatestDread_3 : decode cX0_greatestDread 3 = .ok (.istore_n 3, 1) := by decide +kernel
theorem dX0_greatestDread_4 : decode cX0_greatestDread 4 = .ok (.iload_n 3, 1) := by decide +kernel
theorem dX0_greatestDread_5 : decode cX0_greatestDread 5 = .ok (.bipush 16, 2) := by decide +kernel
theorem dX0_greatestDread_7 : decode cX0_greatestDread 7 = .ok (.if_icmp .ge 20, 3) := by decide +kernel
theorem dX0_greatestDread_10 : decode cX0_greatestDread 10 = .ok (.iload_n 2, 1) := by decide +kernel
theorem dX0_greatestDread_11 : decode cX0_greatestDread 11 = .ok (.aload_n 0, 1) := by decide +kernel
theorem dX0_greatestDread_12 : decode cX0_greatestDread 12 = .ok (.iload_n 1, 1) := by decide +kernel
theorem dX0_greatestDread_13 : decode cX0_greatestDread 13 = .ok (.iload_n 3, 1) := by decide +kernel
theorem dX0_greatestDread_14 : decode cX0_greatestDread 14 = .ok (.invokevirtual 50, 3) := by decide +kernel
theorem dX0_greatestDread_17 : decode cX0_greatestDread 17 = .ok (.invokestatic 54, 3) := by decide +kernel
theorem dX0_greatestDread_20 : decode cX0_greatestDread 20 = .ok (.istore_n 2, 1) := by decide +kernel
theorem dX0_greatestDread_21 : decode cX0_greatestDread 21 = .ok (.iinc 3 1, 3) := by decide +kernel
theorem dX0_greatestDread_24 : decode cX0_greatestDread 24 = .ok (.goto (-20), 3) := by decide +kernel
theorem dX0_greatestDread_27 : decode cX0_greatestDread 27 = .ok (.iload_n 2, 1) := by decide +kernel
theorem dX0_greatestDread_28 : decode cX0_greatestDread 28 = .ok (.ireturn, 1) := by decide +kernel
theorem dX0_fearOf_0 : decode cX0_fearOf 0 = .ok (.aload_n 0, 1) := by decide +kernel
theorem dX0_fearOf_1 : decode cX0_fearOf 1 = .ok (.iload_n 1, 1) := by decide +kernel
theorem dX0_fearOf_2 : decode cX0_fearOf 2 = .ok (.invokevirtual 59, 3) := by decide +kernel
theorem dX0_fearOf_5 : decode cX0_fearOf 5 = .ok (.istore_n 2, 1) := by decide +kernel
theorem dX0_fearOf_6 : decode cX0_fearOf 6 = .ok (.iload_n 2, 1) := by decide +kernel
theorem dX0_fearOf_7 : decode cX0_fearOf 7 = .ok (.ifCond .ne 6, 3) := by decide +kernel
theorem dX0_fearOf_10 : decode cX0_fearOf 10 = .ok (.bipush (-2), 2) := by decide +kernel
theorem dX0_fearOf_12 : decode cX0_fearOf 12 = .ok (.ireturn, 1) := by decide +kernel
theorem dX0_fearOf_13 : decode cX0_fearOf 13 = .ok (.bipush (-2), 2) := by decide +kernel
theorem dX0_fearOf_15 : decode cX0_fearOf 15 = .ok (.istore_n 3, 1) := by decide +kernel
theorem dX0_fearOf_16 : decode cX0_fearOf 16 = .ok (.iconst 0, 1) := by decide +kernel
theorem dX0_fearOf_17 : decode cX0_fearOf 17 = .ok (.istore 4, 2) := by decide +kernel
theorem dX0_fearOf_19 : decode cX0_fearOf 19 = .ok (.iload 4, 2) := by decide +kernel
theorem dX0_fearOf_21 : decode cX0_fearOf 21 = .ok (.bipush 16, 2) := by decide +kernel
theorem dX0_fearOf_23 : decode cX0_fearOf 23 = .ok (.if_icmp .ge 30, 3) := by decide +kernel
theorem dX0_fearOf_26 : decode cX0_fearOf 26 = .ok (.aload_n 0, 1) := by decide +kernel
theorem dX0_fearOf_27 : decode cX0_fearOf 27 = .ok (.iload_n 1, 1) := by decide +kernel
theorem dX0_fearOf_28 : decode cX0_fearOf 28 = .ok (.iload 4, 2) := by decide +kernel
theorem dX0_fearOf_30 : decode cX0_fearOf 30 = .ok (.invokevirtual 50, 3) := by decide +kernel
theorem dX0_fearOf_33 : decode cX0_fearOf 33 = .ok (.iload_n 2, 1) := by decide +kernel
theorem dX0_fearOf_34 : decode cX0_fearOf 34 = .ok (.if_icmp .ne 13, 3) := by decide +kernel
theorem dX0_fearOf_37 : decode cX0_fearOf 37 = .ok (.iload_n 3, 1) := by decide +kernel
theorem dX0_fearOf_38 : decode cX0_fearOf 38 = .ok (.ifCond .lt 6, 3) := by decide +kernel
theorem dX0_fearOf_41 : decode cX0_fearOf 41 = .ok (.bipush (-2), 2) := by decide +kernel
theorem dX0_fearOf_43 : decode cX0_fearOf 43 = .ok (.ireturn, 1) := by decide +kernel
theorem dX0_fearOf_44 : decode cX0_fearOf 44 = .ok (.iload 4, 2) := by decide +kernel
theorem dX0_fearOf_46 : decode cX0_fearOf 46 = .ok (.istore_n 3, 1) := by decide +kernel
theorem dX0_fearOf_47 : decode cX0_fearOf 47 = .ok (.iinc 4 1, 3) := by decide +kernel
theorem dX0_fearOf_50 : decode cX0_fearOf 50 = .ok (.goto (-31), 3) := by decide +kernel
theorem dX0_fearOf_53 : decode cX0_fearOf 53 = .ok (.iload_n 3, 1) := by decide +kernel
theorem dX0_fearOf_54 : decode cX0_fearOf 54 = .ok (.ireturn, 1) := by decide +kernel
theorem dX0_havingFear_0 : decode cX0_havingFear 0 = .ok (.iconst 0, 1) := by decide +kernel
theorem dX0_havingFear_1 : decode cX0_havingFear 1 = .ok (.istore_n 2, 1) := by decide +kernel
theorem dX0_havingFear_2 : decode cX0_havingFear 2 = .ok (.iconst 0, 1) := by decide +kernel
theorem dX0_havingFear_3 : decode cX0_havingFear 3 = .ok (.istore_n 3, 1) := by decide +kernel
theorem dX0_havingFear_4 : decode cX0_havingFear 4 = .ok (.iload_n 3, 1) := by decide +kernel
theorem dX0_havingFear_5 : decode cX0_havingFear 5 = .ok (.bipush 12, 2) := by decide +kernel
theorem dX0_havingFear_7 : decode cX0_havingFear 7 = .ok (.if_icmp .ge 24, 3) := by decide +kernel
theorem dX0_havingFear_10 : decode cX0_havingFear 10 = .ok (.aload_n 0, 1) := by decide +kernel
theorem dX0_havingFear_11 : decode cX0_havingFear 11 = .ok (.iload_n 3, 1) := by decide +kernel
theorem dX0_havingFear_12 : decode cX0_havingFear 12 = .ok (.invokevirtual 63, 3) := by decide +kernel
theorem dX0_havingFear_15 : decode cX0_havingFear 15 = .ok (.iload_n 1, 1) := by decide +kernel
theorem dX0_havingFear_16 : decode cX0_havingFear 16 = .ok (.if_icmp .ne 9, 3) := by decide +kernel
theorem dX0_havingFear_19 : decode cX0_havingFear 19 = .ok (.iload_n 2, 1) := by decide +kernel
theorem dX0_havingFear_20 : decode cX0_havingFear 20 = .ok (.iconst 1, 1) := by decide +kernel
theorem dX0_havingFear_21 : decode cX0_havingFear 21 = .ok (.iload_n 3, 1) := by decide +kernel
theorem dX0_havingFear_22 : decode cX0_havingFear 22 = .ok (.ishl, 1) := by decide +kernel
theorem dX0_havingFear_23 : decode cX0_havingFear 23 = .ok (.ior, 1) := by decide +kernel
theorem dX0_havingFear_24 : decode cX0_havingFear 24 = .ok (.istore_n 2, 1) := by decide +kernel
theorem dX0_havingFear_25 : decode cX0_havingFear 25 = .ok (.iinc 3 1, 3) := by decide +kernel
theorem dX0_havingFear_28 : decode cX0_havingFear 28 = .ok (.goto (-24), 3) := by decide +kernel
theorem dX0_havingFear_31 : decode cX0_havingFear 31 = .ok (.iload_n 2, 1) := by decide +kernel
theorem dX0_havingFear_32 : decode cX0_havingFear 32 = .ok (.ireturn, 1) := by decide +kernel
theorem dX0_nobodysFears_0 : decode cX0_nobodysFears 0 = .ok (.ldc 66, 2) := by decide +kernel
theorem dX0_nobodysFears_2 : decode cX0_nobodysFears 2 = .ok (.istore_n 1, 1) := by decide +kernel
theorem dX0_nobodysFears_3 : decode cX0_nobodysFears 3 = .ok (.iconst 0, 1) := by decide +kernel
theorem dX0_nobodysFears_4 : decode cX0_nobodysFears 4 = .ok (.istore_n 2, 1) := by decide +kernel
theorem dX0_nobodysFears_5 : decode cX0_nobodysFears 5 = .ok (.iload_n 2, 1) := by decide +kernel
theorem dX0_nobodysFears_6 : decode cX0_nobodysFears 6 = .ok (.bipush 12, 2) := by decide +kernel
theorem dX0_nobodysFears_8 : decode cX0_nobodysFears 8 = .ok (.if_icmp .ge 20, 3) := by decide +kernel
theorem dX0_nobodysFears_11 : decode cX0_nobodysFears 11 = .ok (.iload_n 1, 1) := by decide +kernel
theorem dX0_nobodysFears_12 : decode cX0_nobodysFears 12 = .ok (.aload_n 0, 1) := by decide +kernel
theorem dX0_nobodysFears_13 : decode cX0_nobodysFears 13 = .ok (.iload_n 2, 1) := by decide +kernel
theorem dX0_nobodysFears_14 : decode cX0_nobodysFears 14 = .ok (.iconst 1, 1) := by decide +kernel
theorem dX0_nobodysFears_15 : decode cX0_nobodysFears 15 = .ok (.invokevirtual 67, 3) := by decide +kernel
theorem dX0_nobodysFears_18 : decode cX0_nobodysFears 18 = .ok (.iconst (-1), 1) := by decide +kernel
theorem dX0_nobodysFears_19 : decode cX0_nobodysFears 19 = .ok (.ixor, 1) := by decide +kernel
theorem dX0_nobodysFears_20 : decode cX0_nobodysFears 20 = .ok (.iand, 1) := by decide +kernel
theorem dX0_nobodysFears_21 : decode cX0_nobodysFears 21 = .ok (.istore_n 1, 1) := by decide +kernel
theorem dX0_nobodysFears_22 : decode cX0_nobodysFears 22 = .ok (.iinc 2 1, 3) := by decide +kernel
theorem dX0_nobodysFears_25 : decode cX0_nobodysFears 25 = .ok (.goto (-20), 3) := by decide +kernel
theorem dX0_nobodysFears_28 : decode cX0_nobodysFears 28 = .ok (.iload_n 1, 1) := by decide +kernel
theorem dX0_nobodysFears_29 : decode cX0_nobodysFears 29 = .ok (.ireturn, 1) := by decide +kernel
theorem dX0_allsFears_0 : decode cX0_allsFears 0 = .ok (.ldc 66, 2) := by decide +kernel
theorem dX0_allsFears_2 : decode cX0_allsFears 2 = .ok (.istore_n 1, 1) := by decide +kernel
theorem dX0_allsFears_3 : decode cX0_allsFears 3 = .ok (.iconst 0, 1) := by decide +kernel
theorem dX0_allsFears_4 : decode cX0_allsFears 4 = .ok (.istore_n 2, 1) := by decide +kernel
theorem dX0_allsFears_5 : decode cX0_allsFears 5 = .ok (.iload_n 2, 1) := by decide +kernel
theorem dX0_allsFears_6 : decode cX0_allsFears 6 = .ok (.bipush 12, 2) := by decide +kernel
theorem dX0_allsFears_8 : decode cX0_allsFears 8 = .ok (.if_icmp .ge 26, 3) := by decide +kernel
theorem dX0_allsFears_11 : decode cX0_allsFears 11 = .ok (.aload_n 0, 1) := by decide +kernel
theorem dX0_allsFears_12 : decode cX0_allsFears 12 = .ok (.iload_n 2, 1) := by decide +kernel
theorem dX0_allsFears_13 : decode cX0_allsFears 13 = .ok (.invokevirtual 70, 3) := by decide +kernel
theorem dX0_allsFears_16 : decode cX0_allsFears 16 = .ok (.ifCond .eq 12, 3) := by decide +kernel
theorem dX0_allsFears_19 : decode cX0_allsFears 19 = .ok (.iload_n 1, 1) := by decide +kernel
theorem dX0_allsFears_20 : decode cX0_allsFears 20 = .ok (.aload_n 0, 1) := by decide +kernel
theorem dX0_allsFears_21 : decode cX0_allsFears 21 = .ok (.iload_n 2, 1) := by decide +kernel
theorem dX0_allsFears_22 : decode cX0_allsFears 22 = .ok (.iconst 1, 1) := by decide +kernel
theorem dX0_allsFears_23 : decode cX0_allsFears 23 = .ok (.invokevirtual 67, 3) := by decide +kernel
theorem dX0_allsFears_26 : decode cX0_allsFears 26 = .ok (.iand, 1) := by decide +kernel
theorem dX0_allsFears_27 : decode cX0_allsFears 27 = .ok (.istore_n 1, 1) := by decide +kernel
theorem dX0_allsFears_28 : decode cX0_allsFears 28 = .ok (.iinc 2 1, 3) := by decide +kernel
theorem dX0_allsFears_31 : decode cX0_allsFears 31 = .ok (.goto (-26), 3) := by decide +kernel
theorem dX0_allsFears_34 : decode cX0_allsFears 34 = .ok (.iload_n 1, 1) := by decide +kernel
theorem dX0_allsFears_35 : decode cX0_allsFears 35 = .ok (.ireturn, 1) := by decide +kernel
theorem dX0_fearsFrom_0 : decode cX0_fearsFrom 0 = .ok (.iconst 0, 1) := by decide +kernel
theorem dX0_fearsFrom_1 : decode cX0_fearsFrom 1 = .ok (.istore_n 3, 1) := by decide +kernel
theorem dX0_fearsFrom_2 : decode cX0_fearsFrom 2 = .ok (.iconst 0, 1) := by decide +kernel
theorem dX0_fearsFrom_3 : decode cX0_fearsFrom 3 = .ok (.istore 4, 2) := by decide +kernel
theorem dX0_fearsFrom_5 : decode cX0_fearsFrom 5 = .ok (.iload 4, 2) := by decide +kernel
theorem dX0_fearsFrom_7 : decode cX0_fearsFrom 7 = .ok (.bipush 16, 2) := by decide +kernel
theorem dX0_fearsFrom_9 : decode cX0_fearsFrom 9 = .ok (.if_icmp .ge 27, 3) := by decide +kernel
theorem dX0_fearsFrom_12 : decode cX0_fearsFrom 12 = .ok (.aload_n 0, 1) := by decide +kernel
theorem dX0_fearsFrom_13 : decode cX0_fearsFrom 13 = .ok (.iload_n 1, 1) := by decide +kernel
theorem dX0_fearsFrom_14 : decode cX0_fearsFrom 14 = .ok (.iload 4, 2) := by decide +kernel
theorem dX0_fearsFrom_16 : decode cX0_fearsFrom 16 = .ok (.invokevirtual 50, 3) := by decide +kernel
theorem dX0_fearsFrom_19 : decode cX0_fearsFrom 19 = .ok (.iload_n 2, 1) := by decide +kernel
theorem dX0_fearsFrom_20 : decode cX0_fearsFrom 20 = .ok (.if_icmp .lt 10, 3) := by decide +kernel
theorem dX0_fearsFrom_23 : decode cX0_fearsFrom 23 = .ok (.iload_n 3, 1) := by decide +kernel
theorem dX0_fearsFrom_24 : decode cX0_fearsFrom 24 = .ok (.iconst 1, 1) := by decide +kernel
theorem dX0_fearsFrom_25 : decode cX0_fearsFrom 25 = .ok (.iload 4, 2) := by decide +kernel
theorem dX0_fearsFrom_27 : decode cX0_fearsFrom 27 = .ok (.ishl, 1) := by decide +kernel
theorem dX0_fearsFrom_28 : decode cX0_fearsFrom 28 = .ok (.ior, 1) := by decide +kernel
theorem dX0_fearsFrom_29 : decode cX0_fearsFrom 29 = .ok (.istore_n 3, 1) := by decide +kernel
theorem dX0_fearsFrom_30 : decode cX0_fearsFrom 30 = .ok (.iinc 4 1, 3) := by decide +kernel
theorem dX0_fearsFrom_33 : decode cX0_fearsFrom 33 = .ok (.goto (-28), 3) := by decide +kernel
theorem dX0_fearsFrom_36 : decode cX0_fearsFrom 36 = .ok (.iload_n 3, 1) := by decide +kernel
theorem dX0_fearsFrom_37 : decode cX0_fearsFrom 37 = .ok (.ireturn, 1) := by decide +kernel
theorem dX0_knownTo_0 : decode cX0_knownTo 0 = .ok (.iload_n 1, 1) := by decide +kernel
theorem dX0_knownTo_1 : decode cX0_knownTo 1 = .ok (.ifCond .lt 18, 3) := by decide +kernel
theorem dX0_knownTo_4 : decode cX0_knownTo 4 = .ok (.iload_n 1, 1) := by decide +kernel
theorem dX0_knownTo_5 : decode cX0_knownTo 5 = .ok (.bipush 12, 2) := by decide +kernel
theorem dX0_knownTo_7 : decode cX0_knownTo 7 = .ok (.if_icmp .ge 12, 3) := by decide +kernel
theorem dX0_knownTo_10 : decode cX0_knownTo 10 = .ok (.aload_n 0, 1) := by decide +kernel
theorem dX0_knownTo_11 : decode cX0_knownTo 11 = .ok (.getfield 16, 3) := by decide +kernel
theorem dX0_knownTo_14 : decode cX0_knownTo 14 = .ok (.iload_n 1, 1) := by decide +kernel
theorem dX0_knownTo_15 : decode cX0_knownTo 15 = .ok (.iaload, 1) := by decide +kernel
theorem dX0_knownTo_16 : decode cX0_knownTo 16 = .ok (.goto 4, 3) := by decide +kernel
theorem dX0_knownTo_19 : decode cX0_knownTo 19 = .ok (.iconst 0, 1) := by decide +kernel
theorem dX0_knownTo_20 : decode cX0_knownTo 20 = .ok (.ireturn, 1) := by decide +kernel
theorem dX0_acquaintances_0 : decode cX0_acquaintances 0 = .ok (.iconst 0, 1) := by decide +kernel
theorem dX0_acquaintances_1 : decode cX0_acquaintances 1 = .ok (.istore_n 1, 1) := by decide +kernel
theorem dX0_acquaintances_2 : decode cX0_acquaintances 2 = .ok (.iconst 0, 1) := by decide +kernel
theorem dX0_acquaintances_3 : decode cX0_acquaintances 3 = .ok (.istore_n 2, 1) := by decide +kernel
theorem dX0_acquaintances_4 : decode cX0_acquaintances 4 = .ok (.iload_n 2, 1) := by decide +kernel
theorem dX0_acquaintances_5 : decode cX0_acquaintances 5 = .ok (.bipush 12, 2) := by decide +kernel
theorem dX0_acquaintances_7 : decode cX0_acquaintances 7 = .ok (.if_icmp .ge 21, 3) := by decide +kernel
theorem dX0_acquaintances_10 : decode cX0_acquaintances 10 = .ok (.iload_n 1, 1) := by decide +kernel
theorem dX0_acquaintances_11 : decode cX0_acquaintances 11 = .ok (.aload_n 0, 1) := by decide +kernel
theorem dX0_acquaintances_12 : decode cX0_acquaintances 12 = .ok (.getfield 16, 3) := by decide +kernel
theorem dX0_acquaintances_15 : decode cX0_acquaintances 15 = .ok (.iload_n 2, 1) := by decide +kernel
theorem dX0_acquaintances_16 : decode cX0_acquaintances 16 = .ok (.iaload, 1) := by decide +kernel
theorem dX0_acquaintances_17 : decode cX0_acquaintances 17 = .ok (.invokestatic 74, 3) := by decide +kernel
theorem dX0_acquaintances_20 : decode cX0_acquaintances 20 = .ok (.iadd, 1) := by decide +kernel
theorem dX0_acquaintances_21 : decode cX0_acquaintances 21 = .ok (.istore_n 1, 1) := by decide +kernel
theorem dX0_acquaintances_22 : decode cX0_acquaintances 22 = .ok (.iinc 2 1, 3) := by decide +kernel
theorem dX0_acquaintances_25 : decode cX0_acquaintances 25 = .ok (.goto (-21), 3) := by decide +kernel
theorem dX0_acquaintances_28 : decode cX0_acquaintances 28 = .ok (.iload_n 1, 1) := by decide +kernel
theorem dX0_acquaintances_29 : decode cX0_acquaintances 29 = .ok (.iconst 2, 1) := by decide +kernel
theorem dX0_acquaintances_30 : decode cX0_acquaintances 30 = .ok (.idiv, 1) := by decide +kernel
theorem dX0_acquaintances_31 : decode cX0_acquaintances 31 = .ok (.ireturn, 1) := by decide +kernel
theorem dX0_opens_0 : decode cX0_opens 0 = .ok (.aload_n 0, 1) := by decide +kernel
theorem dX0_opens_1 : decode cX0_opens 1 = .ok (.iload_n 1, 1) := by decide +kernel
theorem dX0_opens_2 : decode cX0_opens 2 = .ok (.invokevirtual 70, 3) := by decide +kernel
theorem dX0_opens_5 : decode cX0_opens 5 = .ok (.ifCond .eq 49, 3) := by decide +kernel
theorem dX0_opens_8 : decode cX0_opens 8 = .ok (.aload_n 0, 1) := by decide +kernel
theorem dX0_opens_9 : decode cX0_opens 9 = .ok (.iload_n 2, 1) := by decide +kernel
theorem dX0_opens_10 : decode cX0_opens 10 = .ok (.invokevirtual 79, 3) := by decide +kernel
theorem dX0_opens_13 : decode cX0_opens 13 = .ok (.ifCond .eq 41, 3) := by decide +kernel
theorem dX0_opens_16 : decode cX0_opens 16 = .ok (.aload_n 0, 1) := by decide +kernel
theorem dX0_opens_17 : decode cX0_opens 17 = .ok (.iload_n 1, 1) := by decide +kernel
theorem dX0_opens_18 : decode cX0_opens 18 = .ok (.invokevirtual 63, 3) := by decide +kernel
theorem dX0_opens_21 : decode cX0_opens 21 = .ok (.aload_n 0, 1) := by decide +kernel
theorem dX0_opens_22 : decode cX0_opens 22 = .ok (.getfield 20, 3) := by decide +kernel
theorem dX0_opens_25 : decode cX0_opens 25 = .ok (.iload_n 2, 1) := by decide +kernel
theorem dX0_opens_26 : decode cX0_opens 26 = .ok (.iaload, 1) := by decide +kernel
theorem dX0_opens_27 : decode cX0_opens 27 = .ok (.if_icmp .ne 27, 3) := by decide +kernel
theorem dX0_opens_30 : decode cX0_opens 30 = .ok (.aload_n 0, 1) := by decide +kernel
theorem dX0_opens_31 : decode cX0_opens 31 = .ok (.iload_n 1, 1) := by decide +kernel
theorem dX0_opens_32 : decode cX0_opens 32 = .ok (.aload_n 0, 1) := by decide +kernel
theorem dX0_opens_33 : decode cX0_opens 33 = .ok (.getfield 20, 3) := by decide +kernel
theorem dX0_opens_36 : decode cX0_opens 36 = .ok (.iload_n 2, 1) := by decide +kernel
theorem dX0_opens_37 : decode cX0_opens 37 = .ok (.iaload, 1) := by decide +kernel
theorem dX0_opens_38 : decode cX0_opens 38 = .ok (.invokevirtual 50, 3) := by decide +kernel
theorem dX0_opens_41 : decode cX0_opens 41 = .ok (.aload_n 0, 1) := by decide +kernel
theorem dX0_opens_42 : decode cX0_opens 42 = .ok (.getfield 23, 3) := by decide +kernel
theorem dX0_opens_45 : decode cX0_opens 45 = .ok (.iload_n 2, 1) := by decide +kernel
theorem dX0_opens_46 : decode cX0_opens 46 = .ok (.iaload, 1) := by decide +kernel
theorem dX0_opens_47 : decode cX0_opens 47 = .ok (.if_icmp .lt 7, 3) := by decide +kernel
theorem dX0_opens_50 : decode cX0_opens 50 = .ok (.iconst 1, 1) := by decide +kernel
theorem dX0_opens_51 : decode cX0_opens 51 = .ok (.goto 4, 3) := by decide +kernel
theorem dX0_opens_54 : decode cX0_opens 54 = .ok (.iconst 0, 1) := by decide +kernel
theorem dX0_opens_55 : decode cX0_opens 55 = .ok (.ireturn, 1) := by decide +kernel
theorem dX0_doorsOpenTo_0 : decode cX0_doorsOpenTo 0 = .ok (.iconst 0, 1) := by decide +kernel
theorem dX0_doorsOpenTo_1 : decode cX0_doorsOpenTo 1 = .ok (.istore_n 2, 1) := by decide +kernel
theorem dX0_doorsOpenTo_2 : decode cX0_doorsOpenTo 2 = .ok (.iconst 0, 1) := by decide +kernel
theorem dX0_doorsOpenTo_3 : decode cX0_doorsOpenTo 3 = .ok (.istore_n 3, 1) := by decide +kernel
theorem dX0_doorsOpenTo_4 : decode cX0_doorsOpenTo 4 = .ok (.iload_n 3, 1) := by decide +kernel
theorem dX0_doorsOpenTo_5 : decode cX0_doorsOpenTo 5 = .ok (.bipush 16, 2) := by decide +kernel
theorem dX0_doorsOpenTo_7 : decode cX0_doorsOpenTo 7 = .ok (.if_icmp .ge 24, 3) := by decide +kernel
theorem dX0_doorsOpenTo_10 : decode cX0_doorsOpenTo 10 = .ok (.aload_n 0, 1) := by decide +kernel
theorem dX0_doorsOpenTo_11 : decode cX0_doorsOpenTo 11 = .ok (.iload_n 1, 1) := by decide +kernel
theorem dX0_doorsOpenTo_12 : decode cX0_doorsOpenTo 12 = .ok (.iload_n 3, 1) := by decide +kernel
theorem dX0_doorsOpenTo_13 : decode cX0_doorsOpenTo 13 = .ok (.invokevirtual 82, 3) := by decide +kernel
theorem dX0_doorsOpenTo_16 : decode cX0_doorsOpenTo 16 = .ok (.ifCond .eq 9, 3) := by decide +kernel
theorem dX0_doorsOpenTo_19 : decode cX0_doorsOpenTo 19 = .ok (.iload_n 2, 1) := by decide +kernel
theorem dX0_doorsOpenTo_20 : decode cX0_doorsOpenTo 20 = .ok (.iconst 1, 1) := by decide +kernel
theorem dX0_doorsOpenTo_21 : decode cX0_doorsOpenTo 21 = .ok (.iload_n 3, 1) := by decide +kernel
theorem dX0_doorsOpenTo_22 : decode cX0_doorsOpenTo 22 = .ok (.ishl, 1) := by decide +kernel
theorem dX0_doorsOpenTo_23 : decode cX0_doorsOpenTo 23 = .ok (.ior, 1) := by decide +kernel
theorem dX0_doorsOpenTo_24 : decode cX0_doorsOpenTo 24 = .ok (.istore_n 2, 1) := by decide +kernel
theorem dX0_doorsOpenTo_25 : decode cX0_doorsOpenTo 25 = .ok (.iinc 3 1, 3) := by decide +kernel
theorem dX0_doorsOpenTo_28 : decode cX0_doorsOpenTo 28 = .ok (.goto (-24), 3) := by decide +kernel
theorem dX0_doorsOpenTo_31 : decode cX0_doorsOpenTo 31 = .ok (.iload_n 2, 1) := by decide +kernel
theorem dX0_doorsOpenTo_32 : decode cX0_doorsOpenTo 32 = .ok (.ireturn, 1) := by decide +kernel
theorem dX0_openersOf_0 : decode cX0_openersOf 0 = .ok (.iconst 0, 1) := by decide +kernel
theorem dX0_openersOf_1 : decode cX0_openersOf 1 = .ok (.istore_n 2, 1) := by decide +kernel
theorem dX0_openersOf_2 : decode cX0_openersOf 2 = .ok (.iconst 0, 1) := by decide +kernel
theorem dX0_openersOf_3 : decode cX0_openersOf 3 = .ok (.istore_n 3, 1) := by decide +kernel
theorem dX0_openersOf_4 : decode cX0_openersOf 4 = .ok (.iload_n 3, 1) := by decide +kernel
theorem dX0_openersOf_5 : decode cX0_openersOf 5 = .ok (.bipush 12, 2) := by decide +kernel
theorem dX0_openersOf_7 : decode cX0_openersOf 7 = .ok (.if_icmp .ge 24, 3) := by decide +kernel
theorem dX0_openersOf_10 : decode cX0_openersOf 10 = .ok (.aload_n 0, 1) := by decide +kernel
theorem dX0_openersOf_11 : decode cX0_openersOf 11 = .ok (.iload_n 3, 1) := by decide +kernel
theorem dX0_openersOf_12 : decode cX0_openersOf 12 = .ok (.iload_n 1, 1) := by decide +kernel
theorem dX0_openersOf_13 : decode cX0_openersOf 13 = .ok (.invokevirtual 82, 3) := by decide +kernel
theorem dX0_openersOf_16 : decode cX0_openersOf 16 = .ok (.ifCond .eq 9, 3) := by decide +kernel
theorem dX0_openersOf_19 : decode cX0_openersOf 19 = .ok (.iload_n 2, 1) := by decide +kernel
theorem dX0_openersOf_20 : decode cX0_openersOf 20 = .ok (.iconst 1, 1) := by decide +kernel
theorem dX0_openersOf_21 : decode cX0_openersOf 21 = .ok (.iload_n 3, 1) := by decide +kernel
theorem dX0_openersOf_22 : decode cX0_openersOf 22 = .ok (.ishl, 1) := by decide +kernel
theorem dX0_openersOf_23 : decode cX0_openersOf 23 = .ok (.ior, 1) := by decide +kernel
theorem dX0_openersOf_24 : decode cX0_openersOf 24 = .ok (.istore_n 2, 1) := by decide +kernel
theorem dX0_openersOf_25 : decode cX0_openersOf 25 = .ok (.iinc 3 1, 3) := by decide +kernel
theorem dX0_openersOf_28 : decode cX0_openersOf 28 = .ok (.goto (-24), 3) := by decide +kernel
theorem dX0_openersOf_31 : decode cX0_openersOf 31 = .ok (.iload_n 2, 1) := by decide +kernel
theorem dX0_openersOf_32 : decode cX0_openersOf 32 = .ok (.ireturn, 1) := by decide +kernel
theorem dX0_openedInAll_0 : decode cX0_openedInAll 0 = .ok (.iconst 0, 1) := by decide +kernel
theorem dX0_openedInAll_1 : decode cX0_openedInAll 1 = .ok (.istore_n 1, 1) := by decide +kernel
theorem dX0_openedInAll_2 : decode cX0_openedInAll 2 = .ok (.iconst 0, 1) := by decide +kernel
theorem dX0_openedInAll_3 : decode cX0_openedInAll 3 = .ok (.istore_n 2, 1) := by decide +kernel
theorem dX0_openedInAll_4 : decode cX0_openedInAll 4 = .ok (.iload_n 2, 1) := by decide +kernel
theorem dX0_openedInAll_5 : decode cX0_openedInAll 5 = .ok (.bipush 16, 2) := by decide +kernel
theorem dX0_openedInAll_7 : decode cX0_openedInAll 7 = .ok (.if_icmp .ge 18, 3) := by decide +kernel
theorem dX0_openedInAll_10 : decode cX0_openedInAll 10 = .ok (.iload_n 1, 1) := by decide +kernel
theorem dX0_openedInAll_11 : decode cX0_openedInAll 11 = .ok (.aload_n 0, 1) := by decide +kernel
theorem dX0_openedInAll_12 : decode cX0_openedInAll 12 = .ok (.getfield 26, 3) := by decide +kernel
theorem dX0_openedInAll_15 : decode cX0_openedInAll 15 = .ok (.iload_n 2, 1) := by decide +kernel
theorem dX0_openedInAll_16 : decode cX0_openedInAll 16 = .ok (.iaload, 1) := by decide +kernel
theorem dX0_openedInAll_17 : decode cX0_openedInAll 17 = .ok (.iadd, 1) := by decide +kernel
theorem dX0_openedInAll_18 : decode cX0_openedInAll 18 = .ok (.istore_n 1, 1) := by decide +kernel
theorem dX0_openedInAll_19 : decode cX0_openedInAll 19 = .ok (.iinc 2 1, 3) := by decide +kernel
theorem dX0_openedInAll_22 : decode cX0_openedInAll 22 = .ok (.goto (-18), 3) := by decide +kernel
theorem dX0_openedInAll_25 : decode cX0_openedInAll 25 = .ok (.iload_n 1, 1) := by decide +kernel
theorem dX0_openedInAll_26 : decode cX0_openedInAll 26 = .ok (.ireturn, 1) := by decide +kernel
theorem dX0_copyFrom_0 : decode cX0_copyFrom 0 = .ok (.aload_n 0, 1) := by decide +kernel
theorem dX0_copyFrom_1 : decode cX0_copyFrom 1 = .ok (.aload_n 1, 1) := by decide +kernel
theorem dX0_copyFrom_2 : decode cX0_copyFrom 2 = .ok (.invokevirtual 86, 3) := by decide +kernel
theorem dX0_copyFrom_5 : decode cX0_copyFrom 5 = .ok (.iconst 0, 1) := by decide +kernel
theorem dX0_copyFrom_6 : decode cX0_copyFrom 6 = .ok (.istore_n 2, 1) := by decide +kernel
theorem dX0_copyFrom_7 : decode cX0_copyFrom 7 = .ok (.iload_n 2, 1) := by decide +kernel
theorem dX0_copyFrom_8 : decode cX0_copyFrom 8 = .ok (.bipush 12, 2) := by decide +kernel
theorem dX0_copyFrom_10 : decode cX0_copyFrom 10 = .ok (.if_icmp .ge 21, 3) := by decide +kernel
theorem dX0_copyFrom_13 : decode cX0_copyFrom 13 = .ok (.aload_n 0, 1) := by decide +kernel
theorem dX0_copyFrom_14 : decode cX0_copyFrom 14 = .ok (.getfield 16, 3) := by decide +kernel
theorem dX0_copyFrom_17 : decode cX0_copyFrom 17 = .ok (.iload_n 2, 1) := by decide +kernel
theorem dX0_copyFrom_18 : decode cX0_copyFrom 18 = .ok (.aload_n 1, 1) := by decide +kernel
theorem dX0_copyFrom_19 : decode cX0_copyFrom 19 = .ok (.getfield 16, 3) := by decide +kernel
theorem dX0_copyFrom_22 : decode cX0_copyFrom 22 = .ok (.iload_n 2, 1) := by decide +kernel
theorem dX0_copyFrom_23 : decode cX0_copyFrom 23 = .ok (.iaload, 1) := by decide +kernel
theorem dX0_copyFrom_24 : decode cX0_copyFrom 24 = .ok (.iastore, 1) := by decide +kernel
theorem dX0_copyFrom_25 : decode cX0_copyFrom 25 = .ok (.iinc 2 1, 3) := by decide +kernel
theorem dX0_copyFrom_28 : decode cX0_copyFrom 28 = .ok (.goto (-21), 3) := by decide +kernel
theorem dX0_copyFrom_31 : decode cX0_copyFrom 31 = .ok (.iconst 0, 1) := by decide +kernel
theorem dX0_copyFrom_32 : decode cX0_copyFrom 32 = .ok (.istore_n 2, 1) := by decide +kernel
theorem dX0_copyFrom_33 : decode cX0_copyFrom 33 = .ok (.iload_n 2, 1) := by decide +kernel
theorem dX0_copyFrom_34 : decode cX0_copyFrom 34 = .ok (.bipush 16, 2) := by decide +kernel
theorem dX0_copyFrom_36 : decode cX0_copyFrom 36 = .ok (.if_icmp .ge 45, 3) := by decide +kernel
theorem dX0_copyFrom_39 : decode cX0_copyFrom 39 = .ok (.aload_n 0, 1) := by decide +kernel
theorem dX0_copyFrom_40 : decode cX0_copyFrom 40 = .ok (.getfield 20, 3) := by decide +kernel
theorem dX0_copyFrom_43 : decode cX0_copyFrom 43 = .ok (.iload_n 2, 1) := by decide +kernel
theorem dX0_copyFrom_44 : decode cX0_copyFrom 44 = .ok (.aload_n 1, 1) := by decide +kernel
theorem dX0_copyFrom_45 : decode cX0_copyFrom 45 = .ok (.getfield 20, 3) := by decide +kernel
theorem dX0_copyFrom_48 : decode cX0_copyFrom 48 = .ok (.iload_n 2, 1) := by decide +kernel
theorem dX0_copyFrom_49 : decode cX0_copyFrom 49 = .ok (.iaload, 1) := by decide +kernel
theorem dX0_copyFrom_50 : decode cX0_copyFrom 50 = .ok (.iastore, 1) := by decide +kernel
theorem dX0_copyFrom_51 : decode cX0_copyFrom 51 = .ok (.aload_n 0, 1) := by decide +kernel
theorem dX0_copyFrom_52 : decode cX0_copyFrom 52 = .ok (.getfield 23, 3) := by decide +kernel
theorem dX0_copyFrom_55 : decode cX0_copyFrom 55 = .ok (.iload_n 2, 1) := by decide +kernel
theorem dX0_copyFrom_56 : decode cX0_copyFrom 56 = .ok (.aload_n 1, 1) := by decide +kernel
theorem dX0_copyFrom_57 : decode cX0_copyFrom 57 = .ok (.getfield 23, 3) := by decide +kernel
theorem dX0_copyFrom_60 : decode cX0_copyFrom 60 = .ok (.iload_n 2, 1) := by decide +kernel
theorem dX0_copyFrom_61 : decode cX0_copyFrom 61 = .ok (.iaload, 1) := by decide +kernel
theorem dX0_copyFrom_62 : decode cX0_copyFrom 62 = .ok (.iastore, 1) := by decide +kernel
theorem dX0_copyFrom_63 : decode cX0_copyFrom 63 = .ok (.aload_n 0, 1) := by decide +kernel
theorem dX0_copyFrom_64 : decode cX0_copyFrom 64 = .ok (.getfield 26, 3) := by decide +kernel
theorem dX0_copyFrom_67 : decode cX0_copyFrom 67 = .ok (.iload_n 2, 1) := by decide +kernel
theorem dX0_copyFrom_68 : decode cX0_copyFrom 68 = .ok (.aload_n 1, 1) := by decide +kernel
theorem dX0_copyFrom_69 : decode cX0_copyFrom 69 = .ok (.getfield 26, 3) := by decide +kernel
theorem dX0_copyFrom_72 : decode cX0_copyFrom 72 = .ok (.iload_n 2, 1) := by decide +kernel
theorem dX0_copyFrom_73 : decode cX0_copyFrom 73 = .ok (.iaload, 1) := by decide +kernel
theorem dX0_copyFrom_74 : decode cX0_copyFrom 74 = .ok (.iastore, 1) := by decide +kernel
theorem dX0_copyFrom_75 : decode cX0_copyFrom 75 = .ok (.iinc 2 1, 3) := by decide +kernel
theorem dX0_copyFrom_78 : decode cX0_copyFrom 78 = .ok (.goto (-45), 3) := by decide +kernel
theorem dX0_copyFrom_81 : decode cX0_copyFrom 81 = .ok (.aload_n 0, 1) := by decide +kernel
theorem dX0_copyFrom_82 : decode cX0_copyFrom 82 = .ok (.aload_n 1, 1) := by decide +kernel
theorem dX0_copyFrom_83 : decode cX0_copyFrom 83 = .ok (.getfield 29, 3) := by decide +kernel
theorem dX0_copyFrom_86 : decode cX0_copyFrom 86 = .ok (.putfield 29, 3) := by decide +kernel
theorem dX0_copyFrom_89 : decode cX0_copyFrom 89 = .ok (.aload_n 0, 1) := by decide +kernel
theorem dX0_copyFrom_90 : decode cX0_copyFrom 90 = .ok (.aload_n 1, 1) := by decide +kernel
theorem dX0_copyFrom_91 : decode cX0_copyFrom 91 = .ok (.getfield 33, 3) := by decide +kernel
theorem dX0_copyFrom_94 : decode cX0_copyFrom 94 = .ok (.putfield 33, 3) := by decide +kernel
theorem dX0_copyFrom_97 : decode cX0_copyFrom 97 = .ok (.aload_n 0, 1) := by decide +kernel
theorem dX0_copyFrom_98 : decode cX0_copyFrom 98 = .ok (.aload_n 1, 1) := by decide +kernel
theorem dX0_copyFrom_99 : decode cX0_copyFrom 99 = .ok (.getfield 36, 3) := by decide +kernel
theorem dX0_copyFrom_102 : decode cX0_copyFrom 102 = .ok (.putfield 36, 3) := by decide +kernel
theorem dX0_copyFrom_105 : decode cX0_copyFrom 105 = .ok (.aload_n 0, 1) := by decide +kernel
theorem dX0_copyFrom_106 : decode cX0_copyFrom 106 = .ok (.aload_n 1, 1) := by decide +kernel
theorem dX0_copyFrom_107 : decode cX0_copyFrom 107 = .ok (.getfield 39, 3) := by decide +kernel
theorem dX0_copyFrom_110 : decode cX0_copyFrom 110 = .ok (.putfield 39, 3) := by decide +kernel
theorem dX0_copyFrom_113 : decode cX0_copyFrom 113 = .ok (.return_, 1) := by decide +kernel
theorem dX0_copyDreads_0 : decode cX0_copyDreads 0 = .ok (.iconst 0, 1) := by decide +kernel
theorem dX0_copyDreads_1 : decode cX0_copyDreads 1 = .ok (.istore_n 2, 1) := by decide +kernel
theorem dX0_copyDreads_2 : decode cX0_copyDreads 2 = .ok (.iload_n 2, 1) := by decide +kernel
theorem dX0_copyDreads_3 : decode cX0_copyDreads 3 = .ok (.bipush 12, 2) := by decide +kernel
theorem dX0_copyDreads_5 : decode cX0_copyDreads 5 = .ok (.if_icmp .ge 39, 3) := by decide +kernel
theorem dX0_copyDreads_8 : decode cX0_copyDreads 8 = .ok (.iconst 0, 1) := by decide +kernel
theorem dX0_copyDreads_9 : decode cX0_copyDreads 9 = .ok (.istore_n 3, 1) := by decide +kernel
theorem dX0_copyDreads_10 : decode cX0_copyDreads 10 = .ok (.iload_n 3, 1) := by decide +kernel
theorem dX0_copyDreads_11 : decode cX0_copyDreads 11 = .ok (.bipush 16, 2) := by decide +kernel
theorem dX0_copyDreads_13 : decode cX0_copyDreads 13 = .ok (.if_icmp .ge 25, 3) := by decide +kernel
theorem dX0_copyDreads_16 : decode cX0_copyDreads 16 = .ok (.aload_n 0, 1) := by decide +kernel
theorem dX0_copyDreads_17 : decode cX0_copyDreads 17 = .ok (.getfield 11, 3) := by decide +kernel
theorem dX0_copyDreads_20 : decode cX0_copyDreads 20 = .ok (.iload_n 2, 1) := by decide +kernel
theorem dX0_copyDreads_21 : decode cX0_copyDreads 21 = .ok (.aaload, 1) := by decide +kernel
theorem dX0_copyDreads_22 : decode cX0_copyDreads 22 = .ok (.iload_n 3, 1) := by decide +kernel
theorem dX0_copyDreads_23 : decode cX0_copyDreads 23 = .ok (.aload_n 1, 1) := by decide +kernel
theorem dX0_copyDreads_24 : decode cX0_copyDreads 24 = .ok (.getfield 11, 3) := by decide +kernel
theorem dX0_copyDreads_27 : decode cX0_copyDreads 27 = .ok (.iload_n 2, 1) := by decide +kernel
theorem dX0_copyDreads_28 : decode cX0_copyDreads 28 = .ok (.aaload, 1) := by decide +kernel
theorem dX0_copyDreads_29 : decode cX0_copyDreads 29 = .ok (.iload_n 3, 1) := by decide +kernel
theorem dX0_copyDreads_30 : decode cX0_copyDreads 30 = .ok (.iaload, 1) := by decide +kernel
theorem dX0_copyDreads_31 : decode cX0_copyDreads 31 = .ok (.iastore, 1) := by decide +kernel
theorem dX0_copyDreads_32 : decode cX0_copyDreads 32 = .ok (.iinc 3 1, 3) := by decide +kernel
theorem dX0_copyDreads_35 : decode cX0_copyDreads 35 = .ok (.goto (-25), 3) := by decide +kernel
theorem dX0_copyDreads_38 : decode cX0_copyDreads 38 = .ok (.iinc 2 1, 3) := by decide +kernel
theorem dX0_copyDreads_41 : decode cX0_copyDreads 41 = .ok (.goto (-39), 3) := by decide +kernel
theorem dX0_copyDreads_44 : decode cX0_copyDreads 44 = .ok (.return_, 1) := by decide +kernel
theorem dX1_init_0 : decode cX1_init 0 = .ok (.aload_n 0, 1) := by decide +kernel
theorem dX1_init_1 : decode cX1_init 1 = .ok (.invokespecial 3, 3) := by decide +kernel
theorem dX1_init_4 : decode cX1_init 4 = .ok (.aload_n 0, 1) := by decide +kernel
theorem dX1_init_5 : decode cX1_init 5 = .ok (.bipush 12, 2) := by decide +kernel
theorem dX1_init_7 : decode cX1_init 7 = .ok (.newarray .int, 2) := by decide +kernel
theorem dX1_init_9 : decode cX1_init 9 = .ok (.putfield 9, 3) := by decide +kernel
theorem dX1_init_12 : decode cX1_init 12 = .ok (.aload_n 0, 1) := by decide +kernel
theorem dX1_init_13 : decode cX1_init 13 = .ok (.sipush 4096, 3) := by decide +kernel
theorem dX1_init_16 : decode cX1_init 16 = .ok (.newarray .int, 2) := by decide +kernel
theorem dX1_init_18 : decode cX1_init 18 = .ok (.putfield 15, 3) := by decide +kernel
theorem dX1_init_21 : decode cX1_init 21 = .ok (.return_, 1) := by decide +kernel
theorem dX1_beside_0 : decode cX1_beside 0 = .ok (.iconst 0, 1) := by decide +kernel
theorem dX1_beside_1 : decode cX1_beside 1 = .ok (.istore_n 2, 1) := by decide +kernel
theorem dX1_beside_2 : decode cX1_beside 2 = .ok (.iconst 0, 1) := by decide +kernel
theorem dX1_beside_3 : decode cX1_beside 3 = .ok (.istore_n 3, 1) := by decide +kernel
theorem dX1_beside_4 : decode cX1_beside 4 = .ok (.iload_n 3, 1) := by decide +kernel
theorem dX1_beside_5 : decode cX1_beside 5 = .ok (.aload_n 0, 1) := by decide +kernel
theorem dX1_beside_6 : decode cX1_beside 6 = .ok (.arraylength, 1) := by decide +kernel
theorem dX1_beside_7 : decode cX1_beside 7 = .ok (.if_icmp .ge 23, 3) := by decide +kernel
theorem dX1_beside_10 : decode cX1_beside 10 = .ok (.iload_n 1, 1) := by decide +kernel
theorem dX1_beside_11 : decode cX1_beside 11 = .ok (.iload_n 3, 1) := by decide +kernel
theorem dX1_beside_12 : decode cX1_beside 12 = .ok (.invokestatic 18, 3) := by decide +kernel
theorem dX1_beside_15 : decode cX1_beside 15 = .ok (.ifCond .eq 9, 3) := by decide +kernel
theorem dX1_beside_18 : decode cX1_beside 18 = .ok (.iload_n 2, 1) := by decide +kernel
theorem dX1_beside_19 : decode cX1_beside 19 = .ok (.aload_n 0, 1) := by decide +kernel
theorem dX1_beside_20 : decode cX1_beside 20 = .ok (.iload_n 3, 1) := by decide +kernel
theorem dX1_beside_21 : decode cX1_beside 21 = .ok (.iaload, 1) := by decide +kernel
theorem dX1_beside_22 : decode cX1_beside 22 = .ok (.ior, 1) := by decide +kernel
theorem dX1_beside_23 : decode cX1_beside 23 = .ok (.istore_n 2, 1) := by decide +kernel
theorem dX1_beside_24 : decode cX1_beside 24 = .ok (.iinc 3 1, 3) := by decide +kernel
theorem dX1_beside_27 : decode cX1_beside 27 = .ok (.goto (-23), 3) := by decide +kernel
theorem dX1_beside_30 : decode cX1_beside 30 = .ok (.iload_n 2, 1) := by decide +kernel
theorem dX1_beside_31 : decode cX1_beside 31 = .ok (.ireturn, 1) := by decide +kernel
theorem dX1_reached_0 : decode cX1_reached 0 = .ok (.iload_n 1, 1) := by decide +kernel
theorem dX1_reached_1 : decode cX1_reached 1 = .ok (.iload_n 2, 1) := by decide +kernel
theorem dX1_reached_2 : decode cX1_reached 2 = .ok (.iand, 1) := by decide +kernel
theorem dX1_reached_3 : decode cX1_reached 3 = .ok (.istore_n 3, 1) := by decide +kernel
theorem dX1_reached_4 : decode cX1_reached 4 = .ok (.iconst 0, 1) := by decide +kernel
theorem dX1_reached_5 : decode cX1_reached 5 = .ok (.istore 4, 2) := by decide +kernel
theorem dX1_reached_7 : decode cX1_reached 7 = .ok (.iload 4, 2) := by decide +kernel
theorem dX1_reached_9 : decode cX1_reached 9 = .ok (.bipush 12, 2) := by decide +kernel
theorem dX1_reached_11 : decode cX1_reached 11 = .ok (.if_icmp .ge 19, 3) := by decide +kernel
theorem dX1_reached_14 : decode cX1_reached 14 = .ok (.iload_n 3, 1) := by decide +kernel
theorem dX1_reached_15 : decode cX1_reached 15 = .ok (.aload_n 0, 1) := by decide +kernel
theorem dX1_reached_16 : decode cX1_reached 16 = .ok (.iload_n 3, 1) := by decide +kernel
theorem dX1_reached_17 : decode cX1_reached 17 = .ok (.invokestatic 22, 3) := by decide +kernel
theorem dX1_reached_20 : decode cX1_reached 20 = .ok (.iload_n 2, 1) := by decide +kernel
theorem dX1_reached_21 : decode cX1_reached 21 = .ok (.iand, 1) := by decide +kernel
theorem dX1_reached_22 : decode cX1_reached 22 = .ok (.ior, 1) := by decide +kernel
theorem dX1_reached_23 : decode cX1_reached 23 = .ok (.istore_n 3, 1) := by decide +kernel
theorem dX1_reached_24 : decode cX1_reached 24 = .ok (.iinc 4 1, 3) := by decide +kernel
theorem dX1_reached_27 : decode cX1_reached 27 = .ok (.goto (-20), 3) := by decide +kernel
theorem dX1_reached_30 : decode cX1_reached 30 = .ok (.iload_n 3, 1) := by decide +kernel
theorem dX1_reached_31 : decode cX1_reached 31 = .ok (.ireturn, 1) := by decide +kernel
theorem dX1_holdersTogether_0 : decode cX1_holdersTogether 0 = .ok (.iconst 0, 1) := by decide +kernel
theorem dX1_holdersTogether_1 : decode cX1_holdersTogether 1 = .ok (.istore_n 1, 1) := by decide +kernel
theorem dX1_holdersTogether_2 : decode cX1_holdersTogether 2 = .ok (.iconst 0, 1) := by decide +kernel
theorem dX1_holdersTogether_3 : decode cX1_holdersTogether 3 = .ok (.istore_n 2, 1) := by decide +kernel
theorem dX1_holdersTogether_4 : decode cX1_holdersTogether 4 = .ok (.iload_n 2, 1) := by decide +kernel
theorem dX1_holdersTogether_5 : decode cX1_holdersTogether 5 = .ok (.bipush 12, 2) := by decide +kernel
theorem dX1_holdersTogether_7 : decode cX1_holdersTogether 7 = .ok (.if_icmp .ge 61, 3) := by decide +kernel
theorem dX1_holdersTogether_10 : decode cX1_holdersTogether 10 = .ok (.aload_n 0, 1) := by decide +kernel
theorem dX1_holdersTogether_11 : decode cX1_holdersTogether 11 = .ok (.getfield 26, 3) := by decide +kernel
theorem dX1_holdersTogether_14 : decode cX1_holdersTogether 14 = .ok (.iconst 1, 1) := by decide +kernel
theorem dX1_holdersTogether_15 : decode cX1_holdersTogether 15 = .ok (.iload_n 2, 1) := by decide +kernel
theorem dX1_holdersTogether_16 : decode cX1_holdersTogether 16 = .ok (.ishl, 1) := by decide +kernel
theorem dX1_holdersTogether_17 : decode cX1_holdersTogether 17 = .ok (.iconst (-1), 1) := by decide +kernel
theorem dX1_holdersTogether_18 : decode cX1_holdersTogether 18 = .ok (.ixor, 1) := by decide +kernel
theorem dX1_holdersTogether_19 : decode cX1_holdersTogether 19 = .ok (.iand, 1) := by decide +kernel
theorem dX1_holdersTogether_20 : decode cX1_holdersTogether 20 = .ok (.istore_n 3, 1) := by decide +kernel
theorem dX1_holdersTogether_21 : decode cX1_holdersTogether 21 = .ok (.aload_n 0, 1) := by decide +kernel
theorem dX1_holdersTogether_22 : decode cX1_holdersTogether 22 = .ok (.iload_n 2, 1) := by decide +kernel
theorem dX1_holdersTogether_23 : decode cX1_holdersTogether 23 = .ok (.invokevirtual 32, 3) := by decide +kernel
theorem dX1_holdersTogether_26 : decode cX1_holdersTogether 26 = .ok (.iload_n 3, 1) := by decide +kernel
theorem dX1_holdersTogether_27 : decode cX1_holdersTogether 27 = .ok (.iand, 1) := by decide +kernel
theorem dX1_holdersTogether_28 : decode cX1_holdersTogether 28 = .ok (.istore 4, 2) := by decide +kernel
theorem dX1_holdersTogether_30 : decode cX1_holdersTogether 30 = .ok (.iload 4, 2) := by decide +kernel
theorem dX1_holdersTogether_32 : decode cX1_holdersTogether 32 = .ok (.iload 4, 2) := by decide +kernel
theorem dX1_holdersTogether_34 : decode cX1_holdersTogether 34 = .ok (.ineg, 1) := by decide +kernel
theorem dX1_holdersTogether_35 : decode cX1_holdersTogether 35 = .ok (.iand, 1) := by decide +kernel
theorem dX1_holdersTogether_36 : decode cX1_holdersTogether 36 = .ok (.istore 5, 2) := by decide +kernel
theorem dX1_holdersTogether_38 : decode cX1_holdersTogether 38 = .ok (.iload 4, 2) := by decide +kernel
theorem dX1_holdersTogether_40 : decode cX1_holdersTogether 40 = .ok (.aload_n 0, 1) := by decide +kernel
theorem dX1_holdersTogether_41 : decode cX1_holdersTogether 41 = .ok (.getfield 36, 3) := by decide +kernel
theorem dX1_holdersTogether_44 : decode cX1_holdersTogether 44 = .ok (.iload 5, 2) := by decide +kernel
theorem dX1_holdersTogether_46 : decode cX1_holdersTogether 46 = .ok (.iload_n 3, 1) := by decide +kernel
theorem dX1_holdersTogether_47 : decode cX1_holdersTogether 47 = .ok (.invokestatic 39, 3) := by decide +kernel
theorem dX1_holdersTogether_50 : decode cX1_holdersTogether 50 = .ok (.iconst (-1), 1) := by decide +kernel
theorem dX1_holdersTogether_51 : decode cX1_holdersTogether 51 = .ok (.ixor, 1) := by decide +kernel
theorem dX1_holdersTogether_52 : decode cX1_holdersTogether 52 = .ok (.iand, 1) := by decide +kernel
theorem dX1_holdersTogether_53 : decode cX1_holdersTogether 53 = .ok (.ifCond .eq 9, 3) := by decide +kernel
theorem dX1_holdersTogether_56 : decode cX1_holdersTogether 56 = .ok (.iload_n 1, 1) := by decide +kernel
theorem dX1_holdersTogether_57 : decode cX1_holdersTogether 57 = .ok (.iconst 1, 1) := by decide +kernel
theorem dX1_holdersTogether_58 : decode cX1_holdersTogether 58 = .ok (.iload_n 2, 1) := by decide +kernel
theorem dX1_holdersTogether_59 : decode cX1_holdersTogether 59 = .ok (.ishl, 1) := by decide +kernel
theorem dX1_holdersTogether_60 : decode cX1_holdersTogether 60 = .ok (.ior, 1) := by decide +kernel
theorem dX1_holdersTogether_61 : decode cX1_holdersTogether 61 = .ok (.istore_n 1, 1) := by decide +kernel
theorem dX1_holdersTogether_62 : decode cX1_holdersTogether 62 = .ok (.iinc 2 1, 3) := by decide +kernel
theorem dX1_holdersTogether_65 : decode cX1_holdersTogether 65 = .ok (.goto (-61), 3) := by decide +kernel
theorem dX1_holdersTogether_68 : decode cX1_holdersTogether 68 = .ok (.iload_n 1, 1) := by decide +kernel
theorem dX1_holdersTogether_69 : decode cX1_holdersTogether 69 = .ok (.ireturn, 1) := by decide +kernel
theorem dX1_grownFashion_0 : decode cX1_grownFashion 0 = .ok (.iload_n 1, 1) := by decide +kernel
theorem dX1_grownFashion_1 : decode cX1_grownFashion 1 = .ok (.istore_n 3, 1) := by decide +kernel
theorem dX1_grownFashion_2 : decode cX1_grownFashion 2 = .ok (.iconst 0, 1) := by decide +kernel
theorem dX1_grownFashion_3 : decode cX1_grownFashion 3 = .ok (.istore 4, 2) := by decide +kernel
theorem dX1_grownFashion_5 : decode cX1_grownFashion 5 = .ok (.iload 4, 2) := by decide +kernel
theorem dX1_grownFashion_7 : decode cX1_grownFashion 7 = .ok (.bipush 12, 2) := by decide +kernel
theorem dX1_grownFashion_9 : decode cX1_grownFashion 9 = .ok (.if_icmp .ge 31, 3) := by decide +kernel
theorem dX1_grownFashion_12 : decode cX1_grownFashion 12 = .ok (.aload_n 0, 1) := by decide +kernel
theorem dX1_grownFashion_13 : decode cX1_grownFashion 13 = .ok (.iload 4, 2) := by decide +kernel
theorem dX1_grownFashion_15 : decode cX1_grownFashion 15 = .ok (.invokevirtual 32, 3) := by decide +kernel
theorem dX1_grownFashion_18 : decode cX1_grownFashion 18 = .ok (.iload_n 1, 1) := by decide +kernel
theorem dX1_grownFashion_19 : decode cX1_grownFashion 19 = .ok (.iand, 1) := by decide +kernel
theorem dX1_grownFashion_20 : decode cX1_grownFashion 20 = .ok (.invokestatic 43, 3) := by decide +kernel
theorem dX1_grownFashion_23 : decode cX1_grownFashion 23 = .ok (.iload_n 2, 1) := by decide +kernel
theorem dX1_grownFashion_24 : decode cX1_grownFashion 24 = .ok (.if_icmp .lt 10, 3) := by decide +kernel
theorem dX1_grownFashion_27 : decode cX1_grownFashion 27 = .ok (.iload_n 3, 1) := by decide +kernel
theorem dX1_grownFashion_28 : decode cX1_grownFashion 28 = .ok (.iconst 1, 1) := by decide +kernel
theorem dX1_grownFashion_29 : decode cX1_grownFashion 29 = .ok (.iload 4, 2) := by decide +kernel
theorem dX1_grownFashion_31 : decode cX1_grownFashion 31 = .ok (.ishl, 1) := by decide +kernel
theorem dX1_grownFashion_32 : decode cX1_grownFashion 32 = .ok (.ior, 1) := by decide +kernel
theorem dX1_grownFashion_33 : decode cX1_grownFashion 33 = .ok (.istore_n 3, 1) := by decide +kernel
theorem dX1_grownFashion_34 : decode cX1_grownFashion 34 = .ok (.iinc 4 1, 3) := by decide +kernel
theorem dX1_grownFashion_37 : decode cX1_grownFashion 37 = .ok (.goto (-32), 3) := by decide +kernel
theorem dX1_grownFashion_40 : decode cX1_grownFashion 40 = .ok (.iload_n 3, 1) := by decide +kernel
theorem dX1_grownFashion_41 : decode cX1_grownFashion 41 = .ok (.ireturn, 1) := by decide +kernel
theorem dX1_linkAlike_0 : decode cX1_linkAlike 0 = .ok (.iconst 0, 1) := by decide +kernel
theorem dX1_linkAlike_1 : decode cX1_linkAlike 1 = .ok (.istore_n 3, 1) := by decide +kernel
theorem dX1_linkAlike_2 : decode cX1_linkAlike 2 = .ok (.iload_n 3, 1) := by decide +kernel
theorem dX1_linkAlike_3 : decode cX1_linkAlike 3 = .ok (.bipush 12, 2) := by decide +kernel
theorem dX1_linkAlike_5 : decode cX1_linkAlike 5 = .ok (.if_icmp .ge 73, 3) := by decide +kernel
theorem dX1_linkAlike_8 : decode cX1_linkAlike 8 = .ok (.aload_n 0, 1) := by decide +kernel
theorem dX1_linkAlike_9 : decode cX1_linkAlike 9 = .ok (.getfield 9, 3) := by decide +kernel
theorem dX1_linkAlike_12 : decode cX1_linkAlike 12 = .ok (.iload_n 3, 1) := by decide +kernel
theorem dX1_linkAlike_13 : decode cX1_linkAlike 13 = .ok (.iconst 0, 1) := by decide +kernel
theorem dX1_linkAlike_14 : decode cX1_linkAlike 14 = .ok (.iastore, 1) := by decide +kernel
theorem dX1_linkAlike_15 : decode cX1_linkAlike 15 = .ok (.iconst 0, 1) := by decide +kernel
theorem dX1_linkAlike_16 : decode cX1_linkAlike 16 = .ok (.istore 4, 2) := by decide +kernel
theorem dX1_linkAlike_18 : decode cX1_linkAlike 18 = .ok (.iload 4, 2) := by decide +kernel
theorem dX1_linkAlike_20 : decode cX1_linkAlike 20 = .ok (.bipush 12, 2) := by decide +kernel
theorem dX1_linkAlike_22 : decode cX1_linkAlike 22 = .ok (.if_icmp .ge 50, 3) := by decide +kernel
theorem dX1_linkAlike_25 : decode cX1_linkAlike 25 = .ok (.aload_n 1, 1) := by decide +kernel
theorem dX1_linkAlike_26 : decode cX1_linkAlike 26 = .ok (.iload_n 3, 1) := by decide +kernel
theorem dX1_linkAlike_27 : decode cX1_linkAlike 27 = .ok (.invokevirtual 57, 3) := by decide +kernel
theorem dX1_linkAlike_30 : decode cX1_linkAlike 30 = .ok (.ifCond .eq 36, 3) := by decide +kernel
theorem dX1_linkAlike_33 : decode cX1_linkAlike 33 = .ok (.aload_n 1, 1) := by decide +kernel
theorem dX1_linkAlike_34 : decode cX1_linkAlike 34 = .ok (.iload 4, 2) := by decide +kernel
theorem dX1_linkAlike_36 : decode cX1_linkAlike 36 = .ok (.invokevirtual 57, 3) := by decide +kernel
theorem dX1_linkAlike_39 : decode cX1_linkAlike 39 = .ok (.ifCond .eq 27, 3) := by decide +kernel
theorem dX1_linkAlike_42 : decode cX1_linkAlike 42 = .ok (.aload_n 1, 1) := by decide +kernel
theorem dX1_linkAlike_43 : decode cX1_linkAlike 43 = .ok (.iload_n 3, 1) := by decide +kernel
theorem dX1_linkAlike_44 : decode cX1_linkAlike 44 = .ok (.iload 4, 2) := by decide +kernel
theorem dX1_linkAlike_46 : decode cX1_linkAlike 46 = .ok (.invokestatic 61, 3) := by decide +kernel
theorem dX1_linkAlike_49 : decode cX1_linkAlike 49 = .ok (.iload_n 2, 1) := by decide +kernel
theorem dX1_linkAlike_50 : decode cX1_linkAlike 50 = .ok (.if_icmp .gt 16, 3) := by decide +kernel
theorem dX1_linkAlike_53 : decode cX1_linkAlike 53 = .ok (.aload_n 0, 1) := by decide +kernel
theorem dX1_linkAlike_54 : decode cX1_linkAlike 54 = .ok (.getfield 9, 3) := by decide +kernel
theorem dX1_linkAlike_57 : decode cX1_linkAlike 57 = .ok (.iload_n 3, 1) := by decide +kernel
theorem dX1_linkAlike_58 : decode cX1_linkAlike 58 = .ok (.dup2, 1) := by decide +kernel
theorem dX1_linkAlike_59 : decode cX1_linkAlike 59 = .ok (.iaload, 1) := by decide +kernel
theorem dX1_linkAlike_60 : decode cX1_linkAlike 60 = .ok (.iconst 1, 1) := by decide +kernel
theorem dX1_linkAlike_61 : decode cX1_linkAlike 61 = .ok (.iload 4, 2) := by decide +kernel
theorem dX1_linkAlike_63 : decode cX1_linkAlike 63 = .ok (.ishl, 1) := by decide +kernel
theorem dX1_linkAlike_64 : decode cX1_linkAlike 64 = .ok (.ior, 1) := by decide +kernel
theorem dX1_linkAlike_65 : decode cX1_linkAlike 65 = .ok (.iastore, 1) := by decide +kernel
theorem dX1_linkAlike_66 : decode cX1_linkAlike 66 = .ok (.iinc 4 1, 3) := by decide +kernel
theorem dX1_linkAlike_69 : decode cX1_linkAlike 69 = .ok (.goto (-51), 3) := by decide +kernel
theorem dX1_linkAlike_72 : decode cX1_linkAlike 72 = .ok (.iinc 3 1, 3) := by decide +kernel
theorem dX1_linkAlike_75 : decode cX1_linkAlike 75 = .ok (.goto (-73), 3) := by decide +kernel
theorem dX1_linkAlike_78 : decode cX1_linkAlike 78 = .ok (.return_, 1) := by decide +kernel
theorem dX1_circlesOf_0 : decode cX1_circlesOf 0 = .ok (.iconst 0, 1) := by decide +kernel
theorem dX1_circlesOf_1 : decode cX1_circlesOf 1 = .ok (.istore_n 2, 1) := by decide +kernel
theorem dX1_circlesOf_2 : decode cX1_circlesOf 2 = .ok (.iload_n 1, 1) := by decide +kernel
theorem dX1_circlesOf_3 : decode cX1_circlesOf 3 = .ok (.istore_n 3, 1) := by decide +kernel
theorem dX1_circlesOf_4 : decode cX1_circlesOf 4 = .ok (.iconst 0, 1) := by decide +kernel
theorem dX1_circlesOf_5 : decode cX1_circlesOf 5 = .ok (.istore 4, 2) := by decide +kernel
theorem dX1_circlesOf_7 : decode cX1_circlesOf 7 = .ok (.iload 4, 2) := by decide +kernel
theorem dX1_circlesOf_9 : decode cX1_circlesOf 9 = .ok (.bipush 12, 2) := by decide +kernel
theorem dX1_circlesOf_11 : decode cX1_circlesOf 11 = .ok (.if_icmp .ge 33, 3) := by decide +kernel
theorem dX1_circlesOf_14 : decode cX1_circlesOf 14 = .ok (.iload_n 3, 1) := by decide +kernel
theorem dX1_circlesOf_15 : decode cX1_circlesOf 15 = .ok (.iload 4, 2) := by decide +kernel
theorem dX1_circlesOf_17 : decode cX1_circlesOf 17 = .ok (.invokestatic 18, 3) := by decide +kernel
theorem dX1_circlesOf_20 : decode cX1_circlesOf 20 = .ok (.ifCond .eq 18, 3) := by decide +kernel
theorem dX1_circlesOf_23 : decode cX1_circlesOf 23 = .ok (.iinc 2 1, 3) := by decide +kernel
theorem dX1_circlesOf_26 : decode cX1_circlesOf 26 = .ok (.iload_n 3, 1) := by decide +kernel
theorem dX1_circlesOf_27 : decode cX1_circlesOf 27 = .ok (.aload_n 0, 1) := by decide +kernel
theorem dX1_circlesOf_28 : decode cX1_circlesOf 28 = .ok (.iload 4, 2) := by decide +kernel
theorem dX1_circlesOf_30 : decode cX1_circlesOf 30 = .ok (.iload_n 1, 1) := by decide +kernel
theorem dX1_circlesOf_31 : decode cX1_circlesOf 31 = .ok (.invokevirtual 65, 3) := by decide +kernel
theorem dX1_circlesOf_34 : decode cX1_circlesOf 34 = .ok (.iconst (-1), 1) := by decide +kernel
theorem dX1_circlesOf_35 : decode cX1_circlesOf 35 = .ok (.ixor, 1) := by decide +kernel
theorem dX1_circlesOf_36 : decode cX1_circlesOf 36 = .ok (.iand, 1) := by decide +kernel
theorem dX1_circlesOf_37 : decode cX1_circlesOf 37 = .ok (.istore_n 3, 1) := by decide +kernel
theorem dX1_circlesOf_38 : decode cX1_circlesOf 38 = .ok (.iinc 4 1, 3) := by decide +kernel
theorem dX1_circlesOf_41 : decode cX1_circlesOf 41 = .ok (.goto (-34), 3) := by decide +kernel
theorem dX1_circlesOf_44 : decode cX1_circlesOf 44 = .ok (.iload_n 2, 1) := by decide +kernel
theorem dX1_circlesOf_45 : decode cX1_circlesOf 45 = .ok (.ireturn, 1) := by decide +kernel
theorem dX1_mostCouples_0 : decode cX1_mostCouples 0 = .ok (.aload_n 0, 1) := by decide +kernel
theorem dX1_mostCouples_1 : decode cX1_mostCouples 1 = .ok (.aload_n 1, 1) := by decide +kernel
theorem dX1_mostCouples_2 : decode cX1_mostCouples 2 = .ok (.iload_n 2, 1) := by decide +kernel
theorem dX1_mostCouples_3 : decode cX1_mostCouples 3 = .ok (.invokevirtual 68, 3) := by decide +kernel
theorem dX1_mostCouples_6 : decode cX1_mostCouples 6 = .ok (.aload_n 0, 1) := by decide +kernel
theorem dX1_mostCouples_7 : decode cX1_mostCouples 7 = .ok (.getfield 15, 3) := by decide +kernel
theorem dX1_mostCouples_10 : decode cX1_mostCouples 10 = .ok (.iconst 0, 1) := by decide +kernel
theorem dX1_mostCouples_11 : decode cX1_mostCouples 11 = .ok (.iconst 0, 1) := by decide +kernel
theorem dX1_mostCouples_12 : decode cX1_mostCouples 12 = .ok (.iastore, 1) := by decide +kernel
theorem dX1_mostCouples_13 : decode cX1_mostCouples 13 = .ok (.iconst 0, 1) := by decide +kernel
theorem dX1_mostCouples_14 : decode cX1_mostCouples 14 = .ok (.istore_n 3, 1) := by decide +kernel
theorem dX1_mostCouples_15 : decode cX1_mostCouples 15 = .ok (.iload_n 3, 1) := by decide +kernel
theorem dX1_mostCouples_16 : decode cX1_mostCouples 16 = .ok (.bipush 12, 2) := by decide +kernel
theorem dX1_mostCouples_18 : decode cX1_mostCouples 18 = .ok (.if_icmp .ge 44, 3) := by decide +kernel
theorem dX1_mostCouples_21 : decode cX1_mostCouples 21 = .ok (.iconst 0, 1) := by decide +kernel
theorem dX1_mostCouples_22 : decode cX1_mostCouples 22 = .ok (.istore 4, 2) := by decide +kernel
theorem dX1_mostCouples_24 : decode cX1_mostCouples 24 = .ok (.iload 4, 2) := by decide +kernel
theorem dX1_mostCouples_26 : decode cX1_mostCouples 26 = .ok (.iconst 1, 1) := by decide +kernel
theorem dX1_mostCouples_27 : decode cX1_mostCouples 27 = .ok (.iload_n 3, 1) := by decide +kernel
theorem dX1_mostCouples_28 : decode cX1_mostCouples 28 = .ok (.ishl, 1) := by decide +kernel
theorem dX1_mostCouples_29 : decode cX1_mostCouples 29 = .ok (.if_icmp .ge 27, 3) := by decide +kernel
theorem dX1_mostCouples_32 : decode cX1_mostCouples 32 = .ok (.aload_n 0, 1) := by decide +kernel
theorem dX1_mostCouples_33 : decode cX1_mostCouples 33 = .ok (.getfield 15, 3) := by decide +kernel
theorem dX1_mostCouples_36 : decode cX1_mostCouples 36 = .ok (.iload 4, 2) := by decide +kernel
theorem dX1_mostCouples_38 : decode cX1_mostCouples 38 = .ok (.iconst 1, 1) := by decide +kernel
theorem dX1_mostCouples_39 : decode cX1_mostCouples 39 = .ok (.iload_n 3, 1) := by decide +kernel
theorem dX1_mostCouples_40 : decode cX1_mostCouples 40 = .ok (.ishl, 1) := by decide +kernel
theorem dX1_mostCouples_41 : decode cX1_mostCouples 41 = .ok (.ior, 1) := by decide +kernel
theorem dX1_mostCouples_42 : decode cX1_mostCouples 42 = .ok (.aload_n 0, 1) := by decide +kernel
theorem dX1_mostCouples_43 : decode cX1_mostCouples 43 = .ok (.iload_n 3, 1) := by decide +kernel
theorem dX1_mostCouples_44 : decode cX1_mostCouples 44 = .ok (.iload 4, 2) := by decide +kernel
theorem dX1_mostCouples_46 : decode cX1_mostCouples 46 = .ok (.invokevirtual 72, 3) := by decide +kernel
theorem dX1_mostCouples_49 : decode cX1_mostCouples 49 = .ok (.iastore, 1) := by decide +kernel
theorem dX1_mostCouples_50 : decode cX1_mostCouples 50 = .ok (.iinc 4 1, 3) := by decide +kernel
theorem dX1_mostCouples_53 : decode cX1_mostCouples 53 = .ok (.goto (-29), 3) := by decide +kernel
theorem dX1_mostCouples_56 : decode cX1_mostCouples 56 = .ok (.iinc 3 1, 3) := by decide +kernel
theorem dX1_mostCouples_59 : decode cX1_mostCouples 59 = .ok (.goto (-44), 3) := by decide +kernel
theorem dX1_mostCouples_62 : decode cX1_mostCouples 62 = .ok (.aload_n 0, 1) := by decide +kernel
theorem dX1_mostCouples_63 : decode cX1_mostCouples 63 = .ok (.getfield 15, 3) := by decide +kernel
theorem dX1_mostCouples_66 : decode cX1_mostCouples 66 = .ok (.aload_n 0, 1) := by decide +kernel
theorem dX1_mostCouples_67 : decode cX1_mostCouples 67 = .ok (.getfield 15, 3) := by decide +kernel
theorem dX1_mostCouples_70 : decode cX1_mostCouples 70 = .ok (.arraylength, 1) := by decide +kernel
theorem dX1_mostCouples_71 : decode cX1_mostCouples 71 = .ok (.iconst 1, 1) := by decide +kernel
theorem dX1_mostCouples_72 : decode cX1_mostCouples 72 = .ok (.isub, 1) := by decide +kernel
theorem dX1_mostCouples_73 : decode cX1_mostCouples 73 = .ok (.iaload, 1) := by decide +kernel
theorem dX1_mostCouples_74 : decode cX1_mostCouples 74 = .ok (.ireturn, 1) := by decide +kernel
theorem dX1_linkFellows_0 : decode cX1_linkFellows 0 = .ok (.iconst 0, 1) := by decide +kernel
theorem dX1_linkFellows_1 : decode cX1_linkFellows 1 = .ok (.istore_n 3, 1) := by decide +kernel
theorem dX1_linkFellows_2 : decode cX1_linkFellows 2 = .ok (.iload_n 3, 1) := by decide +kernel
theorem dX1_linkFellows_3 : decode cX1_linkFellows 3 = .ok (.bipush 12, 2) := by decide +kernel
theorem dX1_linkFellows_5 : decode cX1_linkFellows 5 = .ok (.if_icmp .ge 61, 3) := by decide +kernel
theorem dX1_linkFellows_8 : decode cX1_linkFellows 8 = .ok (.aload_n 0, 1) := by decide +kernel
theorem dX1_linkFellows_9 : decode cX1_linkFellows 9 = .ok (.getfield 9, 3) := by decide +kernel
theorem dX1_linkFellows_12 : decode cX1_linkFellows 12 = .ok (.iload_n 3, 1) := by decide +kernel
theorem dX1_linkFellows_13 : decode cX1_linkFellows 13 = .ok (.iconst 0, 1) := by decide +kernel
theorem dX1_linkFellows_14 : decode cX1_linkFellows 14 = .ok (.iastore, 1) := by decide +kernel
theorem dX1_linkFellows_15 : decode cX1_linkFellows 15 = .ok (.iconst 0, 1) := by decide +kernel
theorem dX1_linkFellows_16 : decode cX1_linkFellows 16 = .ok (.istore 4, 2) := by decide +kernel
theorem dX1_linkFellows_18 : decode cX1_linkFellows 18 = .ok (.iload 4, 2) := by decide +kernel
theorem dX1_linkFellows_20 : decode cX1_linkFellows 20 = .ok (.iload_n 3, 1) := by decide +kernel
theorem dX1_linkFellows_21 : decode cX1_linkFellows 21 = .ok (.if_icmp .ge 39, 3) := by decide +kernel
theorem dX1_linkFellows_24 : decode cX1_linkFellows 24 = .ok (.aload_n 1, 1) := by decide +kernel
theorem dX1_linkFellows_25 : decode cX1_linkFellows 25 = .ok (.iload_n 3, 1) := by decide +kernel
theorem dX1_linkFellows_26 : decode cX1_linkFellows 26 = .ok (.iload_n 2, 1) := by decide +kernel
theorem dX1_linkFellows_27 : decode cX1_linkFellows 27 = .ok (.invokevirtual 75, 3) := by decide +kernel
theorem dX1_linkFellows_30 : decode cX1_linkFellows 30 = .ok (.aload_n 1, 1) := by decide +kernel
theorem dX1_linkFellows_31 : decode cX1_linkFellows 31 = .ok (.iload 4, 2) := by decide +kernel
theorem dX1_linkFellows_33 : decode cX1_linkFellows 33 = .ok (.iload_n 2, 1) := by decide +kernel
theorem dX1_linkFellows_34 : decode cX1_linkFellows 34 = .ok (.invokevirtual 75, 3) := by decide +kernel
theorem dX1_linkFellows_37 : decode cX1_linkFellows 37 = .ok (.iand, 1) := by decide +kernel
theorem dX1_linkFellows_38 : decode cX1_linkFellows 38 = .ok (.ifCond .eq 16, 3) := by decide +kernel
theorem dX1_linkFellows_41 : decode cX1_linkFellows 41 = .ok (.aload_n 0, 1) := by decide +kernel
theorem dX1_linkFellows_42 : decode cX1_linkFellows 42 = .ok (.getfield 9, 3) := by decide +kernel
theorem dX1_linkFellows_45 : decode cX1_linkFellows 45 = .ok (.iload_n 3, 1) := by decide +kernel
theorem dX1_linkFellows_46 : decode cX1_linkFellows 46 = .ok (.dup2, 1) := by decide +kernel
theorem dX1_linkFellows_47 : decode cX1_linkFellows 47 = .ok (.iaload, 1) := by decide +kernel
theorem dX1_linkFellows_48 : decode cX1_linkFellows 48 = .ok (.iconst 1, 1) := by decide +kernel
theorem dX1_linkFellows_49 : decode cX1_linkFellows 49 = .ok (.iload 4, 2) := by decide +kernel
theorem dX1_linkFellows_51 : decode cX1_linkFellows 51 = .ok (.ishl, 1) := by decide +kernel
theorem dX1_linkFellows_52 : decode cX1_linkFellows 52 = .ok (.ior, 1) := by decide +kernel
theorem dX1_linkFellows_53 : decode cX1_linkFellows 53 = .ok (.iastore, 1) := by decide +kernel
theorem dX1_linkFellows_54 : decode cX1_linkFellows 54 = .ok (.iinc 4 1, 3) := by decide +kernel
theorem dX1_linkFellows_57 : decode cX1_linkFellows 57 = .ok (.goto (-39), 3) := by decide +kernel
theorem dX1_linkFellows_60 : decode cX1_linkFellows 60 = .ok (.iinc 3 1, 3) := by decide +kernel
theorem dX1_linkFellows_63 : decode cX1_linkFellows 63 = .ok (.goto (-61), 3) := by decide +kernel
theorem dX1_linkFellows_66 : decode cX1_linkFellows 66 = .ok (.return_, 1) := by decide +kernel
theorem dX1_mostWith_0 : decode cX1_mostWith 0 = .ok (.iload_n 1, 1) := by decide +kernel
theorem dX1_mostWith_1 : decode cX1_mostWith 1 = .ok (.ifCond .lt 22, 3) := by decide +kernel
theorem dX1_mostWith_4 : decode cX1_mostWith 4 = .ok (.iload_n 1, 1) := by decide +kernel
theorem dX1_mostWith_5 : decode cX1_mostWith 5 = .ok (.bipush 12, 2) := by decide +kernel
theorem dX1_mostWith_7 : decode cX1_mostWith 7 = .ok (.if_icmp .ge 16, 3) := by decide +kernel
theorem dX1_mostWith_10 : decode cX1_mostWith 10 = .ok (.iload_n 2, 1) := by decide +kernel
theorem dX1_mostWith_11 : decode cX1_mostWith 11 = .ok (.ifCond .lt 12, 3) := by decide +kernel
theorem dX1_mostWith_14 : decode cX1_mostWith 14 = .ok (.iload_n 2, 1) := by decide +kernel
theorem dX1_mostWith_15 : decode cX1_mostWith 15 = .ok (.aload_n 0, 1) := by decide +kernel
theorem dX1_mostWith_16 : decode cX1_mostWith 16 = .ok (.getfield 15, 3) := by decide +kernel
theorem dX1_mostWith_19 : decode cX1_mostWith 19 = .ok (.arraylength, 1) := by decide +kernel
theorem dX1_mostWith_20 : decode cX1_mostWith 20 = .ok (.if_icmp .lt 5, 3) := by decide +kernel
theorem dX1_mostWith_23 : decode cX1_mostWith 23 = .ok (.iconst 0, 1) := by decide +kernel
theorem dX1_mostWith_24 : decode cX1_mostWith 24 = .ok (.ireturn, 1) := by decide +kernel
theorem dX1_mostWith_25 : decode cX1_mostWith 25 = .ok (.aload_n 0, 1) := by decide +kernel
theorem dX1_mostWith_26 : decode cX1_mostWith 26 = .ok (.getfield 15, 3) := by decide +kernel
theorem dX1_mostWith_29 : decode cX1_mostWith 29 = .ok (.iload_n 2, 1) := by decide +kernel
theorem dX1_mostWith_30 : decode cX1_mostWith 30 = .ok (.iaload, 1) := by decide +kernel
theorem dX1_mostWith_31 : decode cX1_mostWith 31 = .ok (.istore_n 3, 1) := by decide +kernel
theorem dX1_mostWith_32 : decode cX1_mostWith 32 = .ok (.iconst 0, 1) := by decide +kernel
theorem dX1_mostWith_33 : decode cX1_mostWith 33 = .ok (.istore 4, 2) := by decide +kernel
theorem dX1_mostWith_35 : decode cX1_mostWith 35 = .ok (.iload 4, 2) := by decide +kernel
theorem dX1_mostWith_37 : decode cX1_mostWith 37 = .ok (.iload_n 1, 1) := by decide +kernel
theorem dX1_mostWith_38 : decode cX1_mostWith 38 = .ok (.if_icmp .ge 45, 3) := by decide +kernel
theorem dX1_mostWith_41 : decode cX1_mostWith 41 = .ok (.aload_n 0, 1) := by decide +kernel
theorem dX1_mostWith_42 : decode cX1_mostWith 42 = .ok (.getfield 9, 3) := by decide +kernel
theorem dX1_mostWith_45 : decode cX1_mostWith 45 = .ok (.iload_n 1, 1) := by decide +kernel
theorem dX1_mostWith_46 : decode cX1_mostWith 46 = .ok (.iaload, 1) := by decide +kernel
theorem dX1_mostWith_47 : decode cX1_mostWith 47 = .ok (.iload_n 2, 1) := by decide +kernel
theorem dX1_mostWith_48 : decode cX1_mostWith 48 = .ok (.iand, 1) := by decide +kernel
theorem dX1_mostWith_49 : decode cX1_mostWith 49 = .ok (.iload 4, 2) := by decide +kernel
theorem dX1_mostWith_51 : decode cX1_mostWith 51 = .ok (.invokestatic 18, 3) := by decide +kernel
theorem dX1_mostWith_54 : decode cX1_mostWith 54 = .ok (.ifCond .eq 23, 3) := by decide +kernel
theorem dX1_mostWith_57 : decode cX1_mostWith 57 = .ok (.iload_n 3, 1) := by decide +kernel
theorem dX1_mostWith_58 : decode cX1_mostWith 58 = .ok (.iconst 1, 1) := by decide +kernel
theorem dX1_mostWith_59 : decode cX1_mostWith 59 = .ok (.aload_n 0, 1) := by decide +kernel
theorem dX1_mostWith_60 : decode cX1_mostWith 60 = .ok (.getfield 15, 3) := by decide +kernel
theorem dX1_mostWith_63 : decode cX1_mostWith 63 = .ok (.iload_n 2, 1) := by decide +kernel
theorem dX1_mostWith_64 : decode cX1_mostWith 64 = .ok (.iconst 1, 1) := by decide +kernel
theorem dX1_mostWith_65 : decode cX1_mostWith 65 = .ok (.iload 4, 2) := by decide +kernel
theorem dX1_mostWith_67 : decode cX1_mostWith 67 = .ok (.ishl, 1) := by decide +kernel
theorem dX1_mostWith_68 : decode cX1_mostWith 68 = .ok (.iconst (-1), 1) := by decide +kernel
theorem dX1_mostWith_69 : decode cX1_mostWith 69 = .ok (.ixor, 1) := by decide +kernel
theorem dX1_mostWith_70 : decode cX1_mostWith 70 = .ok (.iand, 1) := by decide +kernel
theorem dX1_mostWith_71 : decode cX1_mostWith 71 = .ok (.iaload, 1) := by decide +kernel
theorem dX1_mostWith_72 : decode cX1_mostWith 72 = .ok (.iadd, 1) := by decide +kernel
theorem dX1_mostWith_73 : decode cX1_mostWith 73 = .ok (.invokestatic 78, 3) := by decide +kernel
theorem dX1_mostWith_76 : decode cX1_mostWith 76 = .ok (.istore_n 3, 1) := by decide +kernel
theorem dX1_mostWith_77 : decode cX1_mostWith 77 = .ok (.iinc 4 1, 3) := by decide +kernel
theorem dX1_mostWith_80 : decode cX1_mostWith 80 = .ok (.goto (-45), 3) := by decide +kernel
theorem dX1_mostWith_83 : decode cX1_mostWith 83 = .ok (.iload_n 3, 1) := by decide +kernel
theorem dX1_mostWith_84 : decode cX1_mostWith 84 = .ok (.ireturn, 1) := by decide +kernel
theorem dX3_init_0 : decode cX3_init 0 = .ok (.aload_n 0, 1) := by decide +kernel
theorem dX3_init_1 : decode cX3_init 1 = .ok (.invokespecial 3, 3) := by decide +kernel
theorem dX3_init_4 : decode cX3_init 4 = .ok (.aload_n 0, 1) := by decide +kernel
theorem dX3_init_5 : decode cX3_init 5 = .ok (.bipush 12, 2) := by decide +kernel
theorem dX3_init_7 : decode cX3_init 7 = .ok (.newarray .int, 2) := by decide +kernel
theorem dX3_init_9 : decode cX3_init 9 = .ok (.putfield 9, 3) := by decide +kernel
theorem dX3_init_12 : decode cX3_init 12 = .ok (.return_, 1) := by decide +kernel
theorem dX3_fewestForAllDoors_0 : decode cX3_fewestForAllDoors 0 = .ok (.sipush 4095, 3) := by decide +kernel
theorem dX3_fewestForAllDoors_3 : decode cX3_fewestForAllDoors 3 = .ok (.istore_n 2, 1) := by decide +kernel
theorem dX3_fewestForAllDoors_4 : decode cX3_fewestForAllDoors 4 = .ok (.bipush (-2), 2) := by decide +kernel
theorem dX3_fewestForAllDoors_6 : decode cX3_fewestForAllDoors 6 = .ok (.istore_n 3, 1) := by decide +kernel
theorem dX3_fewestForAllDoors_7 : decode cX3_fewestForAllDoors 7 = .ok (.bipush 13, 2) := by decide +kernel
theorem dX3_fewestForAllDoors_9 : decode cX3_fewestForAllDoors 9 = .ok (.istore 4, 2) := by decide +kernel
theorem dX3_fewestForAllDoors_11 : decode cX3_fewestForAllDoors 11 = .ok (.iconst 0, 1) := by decide +kernel
theorem dX3_fewestForAllDoors_12 : decode cX3_fewestForAllDoors 12 = .ok (.istore 5, 2) := by decide +kernel
theorem dX3_fewestForAllDoors_14 : decode cX3_fewestForAllDoors 14 = .ok (.iload 5, 2) := by decide +kernel
theorem dX3_fewestForAllDoors_16 : decode cX3_fewestForAllDoors 16 = .ok (.bipush 12, 2) := by decide +kernel
theorem dX3_fewestForAllDoors_18 : decode cX3_fewestForAllDoors 18 = .ok (.if_icmp .ge 22, 3) := by decide +kernel
theorem dX3_fewestForAllDoors_21 : decode cX3_fewestForAllDoors 21 = .ok (.aload_n 0, 1) := by decide +kernel
theorem dX3_fewestForAllDoors_22 : decode cX3_fewestForAllDoors 22 = .ok (.getfield 9, 3) := by decide +kernel
theorem dX3_fewestForAllDoors_25 : decode cX3_fewestForAllDoors 25 = .ok (.iload 5, 2) := by decide +kernel
theorem dX3_fewestForAllDoors_27 : decode cX3_fewestForAllDoors 27 = .ok (.aload_n 1, 1) := by decide +kernel
theorem dX3_fewestForAllDoors_28 : decode cX3_fewestForAllDoors 28 = .ok (.iload 5, 2) := by decide +kernel
theorem dX3_fewestForAllDoors_30 : decode cX3_fewestForAllDoors 30 = .ok (.invokevirtual 43, 3) := by decide +kernel
theorem dX3_fewestForAllDoors_33 : decode cX3_fewestForAllDoors 33 = .ok (.iastore, 1) := by decide +kernel
theorem dX3_fewestForAllDoors_34 : decode cX3_fewestForAllDoors 34 = .ok (.iinc 5 1, 3) := by decide +kernel
theorem dX3_fewestForAllDoors_37 : decode cX3_fewestForAllDoors 37 = .ok (.goto (-23), 3) := by decide +kernel
theorem dX3_fewestForAllDoors_40 : decode cX3_fewestForAllDoors 40 = .ok (.iconst 0, 1) := by decide +kernel
theorem dX3_fewestForAllDoors_41 : decode cX3_fewestForAllDoors 41 = .ok (.istore 5, 2) := by decide +kernel
theorem dX3_fewestForAllDoors_43 : decode cX3_fewestForAllDoors 43 = .ok (.iload 5, 2) := by decide +kernel
theorem dX3_fewestForAllDoors_45 : decode cX3_fewestForAllDoors 45 = .ok (.iload_n 2, 1) := by decide +kernel
theorem dX3_fewestForAllDoors_46 : decode cX3_fewestForAllDoors 46 = .ok (.if_icmp .gt 42, 3) := by decide +kernel
theorem dX3_fewestForAllDoors_49 : decode cX3_fewestForAllDoors 49 = .ok (.iload 5, 2) := by decide +kernel
theorem dX3_fewestForAllDoors_51 : decode cX3_fewestForAllDoors 51 = .ok (.invokestatic 46, 3) := by decide +kernel
theorem dX3_fewestForAllDoors_54 : decode cX3_fewestForAllDoors 54 = .ok (.iload 4, 2) := by decide +kernel
theorem dX3_fewestForAllDoors_56 : decode cX3_fewestForAllDoors 56 = .ok (.if_icmp .ge 26, 3) := by decide +kernel
theorem dX3_fewestForAllDoors_59 : decode cX3_fewestForAllDoors 59 = .ok (.aload_n 0, 1) := by decide +kernel
theorem dX3_fewestForAllDoors_60 : decode cX3_fewestForAllDoors 60 = .ok (.iload 5, 2) := by decide +kernel
theorem dX3_fewestForAllDoors_62 : decode cX3_fewestForAllDoors 62 = .ok (.invokevirtual 51, 3) := by decide +kernel
theorem dX3_fewestForAllDoors_65 : decode cX3_fewestForAllDoors 65 = .ok (.aload_n 1, 1) := by decide +kernel
theorem dX3_fewestForAllDoors_66 : decode cX3_fewestForAllDoors 66 = .ok (.getfield 54, 3) := by decide +kernel
theorem dX3_fewestForAllDoors_69 : decode cX3_fewestForAllDoors 69 = .ok (.if_icmp .ne 13, 3) := by decide +kernel
theorem dX3_fewestForAllDoors_72 : decode cX3_fewestForAllDoors 72 = .ok (.iload 5, 2) := by decide +kernel
theorem dX3_fewestForAllDoors_74 : decode cX3_fewestForAllDoors 74 = .ok (.istore_n 3, 1) := by decide +kernel
theorem dX3_fewestForAllDoors_75 : decode cX3_fewestForAllDoors 75 = .ok (.iload 5, 2) := by decide +kernel
theorem dX3_fewestForAllDoors_77 : decode cX3_fewestForAllDoors 77 = .ok (.invokestatic 46, 3) := by decide +kernel
theorem dX3_fewestForAllDoors_80 : decode cX3_fewestForAllDoors 80 = .ok (.istore 4, 2) := by decide +kernel
theorem dX3_fewestForAllDoors_82 : decode cX3_fewestForAllDoors 82 = .ok (.iinc 5 1, 3) := by decide +kernel
theorem dX3_fewestForAllDoors_85 : decode cX3_fewestForAllDoors 85 = .ok (.goto (-42), 3) := by decide +kernel
theorem dX3_fewestForAllDoors_88 : decode cX3_fewestForAllDoors 88 = .ok (.iload_n 3, 1) := by decide +kernel
theorem dX3_fewestForAllDoors_89 : decode cX3_fewestForAllDoors 89 = .ok (.ireturn, 1) := by decide +kernel
theorem dX3_openedBy_0 : decode cX3_openedBy 0 = .ok (.iconst 0, 1) := by decide +kernel
theorem dX3_openedBy_1 : decode cX3_openedBy 1 = .ok (.istore_n 2, 1) := by decide +kernel
theorem dX3_openedBy_2 : decode cX3_openedBy 2 = .ok (.iconst 0, 1) := by decide +kernel
theorem dX3_openedBy_3 : decode cX3_openedBy 3 = .ok (.istore_n 3, 1) := by decide +kernel
theorem dX3_openedBy_4 : decode cX3_openedBy 4 = .ok (.iload_n 3, 1) := by decide +kernel
theorem dX3_openedBy_5 : decode cX3_openedBy 5 = .ok (.aload_n 0, 1) := by decide +kernel
theorem dX3_openedBy_6 : decode cX3_openedBy 6 = .ok (.getfield 9, 3) := by decide +kernel
theorem dX3_openedBy_9 : decode cX3_openedBy 9 = .ok (.arraylength, 1) := by decide +kernel
theorem dX3_openedBy_10 : decode cX3_openedBy 10 = .ok (.if_icmp .ge 26, 3) := by decide +kernel
theorem dX3_openedBy_13 : decode cX3_openedBy 13 = .ok (.iload_n 1, 1) := by decide +kernel
theorem dX3_openedBy_14 : decode cX3_openedBy 14 = .ok (.iload_n 3, 1) := by decide +kernel
theorem dX3_openedBy_15 : decode cX3_openedBy 15 = .ok (.invokestatic 58, 3) := by decide +kernel
theorem dX3_openedBy_18 : decode cX3_openedBy 18 = .ok (.ifCond .eq 12, 3) := by decide +kernel
theorem dX3_openedBy_21 : decode cX3_openedBy 21 = .ok (.iload_n 2, 1) := by decide +kernel
theorem dX3_openedBy_22 : decode cX3_openedBy 22 = .ok (.aload_n 0, 1) := by decide +kernel
theorem dX3_openedBy_23 : decode cX3_openedBy 23 = .ok (.getfield 9, 3) := by decide +kernel
theorem dX3_openedBy_26 : decode cX3_openedBy 26 = .ok (.iload_n 3, 1) := by decide +kernel
theorem dX3_openedBy_27 : decode cX3_openedBy 27 = .ok (.iaload, 1) := by decide +kernel
theorem dX3_openedBy_28 : decode cX3_openedBy 28 = .ok (.ior, 1) := by decide +kernel
theorem dX3_openedBy_29 : decode cX3_openedBy 29 = .ok (.istore_n 2, 1) := by decide +kernel
theorem dX3_openedBy_30 : decode cX3_openedBy 30 = .ok (.iinc 3 1, 3) := by decide +kernel
theorem dX3_openedBy_33 : decode cX3_openedBy 33 = .ok (.goto (-29), 3) := by decide +kernel
theorem dX3_openedBy_36 : decode cX3_openedBy 36 = .ok (.iload_n 2, 1) := by decide +kernel
theorem dX3_openedBy_37 : decode cX3_openedBy 37 = .ok (.ireturn, 1) := by decide +kernel
theorem dX3_mostLet_0 : decode cX3_mostLet 0 = .ok (.iconst 0, 1) := by decide +kernel
theorem dX3_mostLet_1 : decode cX3_mostLet 1 = .ok (.istore_n 1, 1) := by decide +kernel
theorem dX3_mostLet_2 : decode cX3_mostLet 2 = .ok (.bipush 99, 2) := by decide +kernel
theorem dX3_mostLet_4 : decode cX3_mostLet 4 = .ok (.istore_n 2, 1) := by decide +kernel
theorem dX3_mostLet_5 : decode cX3_mostLet 5 = .ok (.iload_n 2, 1) := by decide +kernel
theorem dX3_mostLet_6 : decode cX3_mostLet 6 = .ok (.ifCond .lt 61, 3) := by decide +kernel
theorem dX3_mostLet_9 : decode cX3_mostLet 9 = .ok (.iconst 0, 1) := by decide +kernel
theorem dX3_mostLet_10 : decode cX3_mostLet 10 = .ok (.istore_n 3, 1) := by decide +kernel
theorem dX3_mostLet_11 : decode cX3_mostLet 11 = .ok (.iload_n 3, 1) := by decide +kernel
theorem dX3_mostLet_12 : decode cX3_mostLet 12 = .ok (.bipush 16, 2) := by decide +kernel
theorem dX3_mostLet_14 : decode cX3_mostLet 14 = .ok (.if_icmp .ge 47, 3) := by decide +kernel
theorem dX3_mostLet_17 : decode cX3_mostLet 17 = .ok (.aload_n 0, 1) := by decide +kernel
theorem dX3_mostLet_18 : decode cX3_mostLet 18 = .ok (.iload_n 3, 1) := by decide +kernel
theorem dX3_mostLet_19 : decode cX3_mostLet 19 = .ok (.invokevirtual 15, 3) := by decide +kernel
theorem dX3_mostLet_22 : decode cX3_mostLet 22 = .ok (.ifCond .eq 33, 3) := by decide +kernel
theorem dX3_mostLet_25 : decode cX3_mostLet 25 = .ok (.aload_n 0, 1) := by decide +kernel
theorem dX3_mostLet_26 : decode cX3_mostLet 26 = .ok (.getfield 24, 3) := by decide +kernel
theorem dX3_mostLet_29 : decode cX3_mostLet 29 = .ok (.iload_n 3, 1) := by decide +kernel
theorem dX3_mostLet_30 : decode cX3_mostLet 30 = .ok (.iaload, 1) := by decide +kernel
theorem dX3_mostLet_31 : decode cX3_mostLet 31 = .ok (.iload_n 2, 1) := by decide +kernel
theorem dX3_mostLet_32 : decode cX3_mostLet 32 = .ok (.if_icmp .ne 23, 3) := by decide +kernel
theorem dX3_mostLet_35 : decode cX3_mostLet 35 = .ok (.aload_n 0, 1) := by decide +kernel
theorem dX3_mostLet_36 : decode cX3_mostLet 36 = .ok (.iload_n 3, 1) := by decide +kernel
theorem dX3_mostLet_37 : decode cX3_mostLet 37 = .ok (.invokevirtual 62, 3) := by decide +kernel
theorem dX3_mostLet_40 : decode cX3_mostLet 40 = .ok (.iload_n 1, 1) := by decide +kernel
theorem dX3_mostLet_41 : decode cX3_mostLet 41 = .ok (.iconst (-1), 1) := by decide +kernel
theorem dX3_mostLet_42 : decode cX3_mostLet 42 = .ok (.ixor, 1) := by decide +kernel
theorem dX3_mostLet_43 : decode cX3_mostLet 43 = .ok (.iand, 1) := by decide +kernel
theorem dX3_mostLet_44 : decode cX3_mostLet 44 = .ok (.istore 4, 2) := by decide +kernel
theorem dX3_mostLet_46 : decode cX3_mostLet 46 = .ok (.iload_n 1, 1) := by decide +kernel
theorem dX3_mostLet_47 : decode cX3_mostLet 47 = .ok (.iload 4, 2) := by decide +kernel
theorem dX3_mostLet_49 : decode cX3_mostLet 49 = .ok (.iload 4, 2) := by decide +kernel
theorem dX3_mostLet_51 : decode cX3_mostLet 51 = .ok (.ineg, 1) := by decide +kernel
theorem dX3_mostLet_52 : decode cX3_mostLet 52 = .ok (.iand, 1) := by decide +kernel
theorem dX3_mostLet_53 : decode cX3_mostLet 53 = .ok (.ior, 1) := by decide +kernel
theorem dX3_mostLet_54 : decode cX3_mostLet 54 = .ok (.istore_n 1, 1) := by decide +kernel
theorem dX3_mostLet_55 : decode cX3_mostLet 55 = .ok (.iinc 3 1, 3) := by decide +kernel
theorem dX3_mostLet_58 : decode cX3_mostLet 58 = .ok (.goto (-47), 3) := by decide +kernel
theorem dX3_mostLet_61 : decode cX3_mostLet 61 = .ok (.iinc 2 (-1), 3) := by decide +kernel
theorem dX3_mostLet_64 : decode cX3_mostLet 64 = .ok (.goto (-59), 3) := by decide +kernel
theorem dX3_mostLet_67 : decode cX3_mostLet 67 = .ok (.iload_n 1, 1) := by decide +kernel
theorem dX3_mostLet_68 : decode cX3_mostLet 68 = .ok (.invokestatic 46, 3) := by decide +kernel
theorem dX3_mostLet_71 : decode cX3_mostLet 71 = .ok (.ireturn, 1) := by decide +kernel
theorem dX3_bestToSend_0 : decode cX3_bestToSend 0 = .ok (.bipush (-2), 2) := by decide +kernel
theorem dX3_bestToSend_2 : decode cX3_bestToSend 2 = .ok (.istore_n 2, 1) := by decide +kernel
theorem dX3_bestToSend_3 : decode cX3_bestToSend 3 = .ok (.bipush 17, 2) := by decide +kernel
theorem dX3_bestToSend_5 : decode cX3_bestToSend 5 = .ok (.istore_n 3, 1) := by decide +kernel
theorem dX3_bestToSend_6 : decode cX3_bestToSend 6 = .ok (.iconst 0, 1) := by decide +kernel
theorem dX3_bestToSend_7 : decode cX3_bestToSend 7 = .ok (.istore 4, 2) := by decide +kernel
theorem dX3_bestToSend_9 : decode cX3_bestToSend 9 = .ok (.iload 4, 2) := by decide +kernel
theorem dX3_bestToSend_11 : decode cX3_bestToSend 11 = .ok (.bipush 12, 2) := by decide +kernel
theorem dX3_bestToSend_13 : decode cX3_bestToSend 13 = .ok (.if_icmp .ge 40, 3) := by decide +kernel
theorem dX3_bestToSend_16 : decode cX3_bestToSend 16 = .ok (.aload_n 0, 1) := by decide +kernel
theorem dX3_bestToSend_17 : decode cX3_bestToSend 17 = .ok (.iload 4, 2) := by decide +kernel
theorem dX3_bestToSend_19 : decode cX3_bestToSend 19 = .ok (.invokevirtual 70, 3) := by decide +kernel
theorem dX3_bestToSend_22 : decode cX3_bestToSend 22 = .ok (.ifCond .eq 25, 3) := by decide +kernel
theorem dX3_bestToSend_25 : decode cX3_bestToSend 25 = .ok (.aload_n 0, 1) := by decide +kernel
theorem dX3_bestToSend_26 : decode cX3_bestToSend 26 = .ok (.iload_n 1, 1) := by decide +kernel
theorem dX3_bestToSend_27 : decode cX3_bestToSend 27 = .ok (.iload 4, 2) := by decide +kernel
theorem dX3_bestToSend_29 : decode cX3_bestToSend 29 = .ok (.invokestatic 83, 3) := by decide +kernel
theorem dX3_bestToSend_32 : decode cX3_bestToSend 32 = .ok (.iload_n 3, 1) := by decide +kernel
theorem dX3_bestToSend_33 : decode cX3_bestToSend 33 = .ok (.if_icmp .ge 14, 3) := by decide +kernel
theorem dX3_bestToSend_36 : decode cX3_bestToSend 36 = .ok (.iload 4, 2) := by decide +kernel
theorem dX3_bestToSend_38 : decode cX3_bestToSend 38 = .ok (.istore_n 2, 1) := by decide +kernel
theorem dX3_bestToSend_39 : decode cX3_bestToSend 39 = .ok (.aload_n 0, 1) := by decide +kernel
theorem dX3_bestToSend_40 : decode cX3_bestToSend 40 = .ok (.iload_n 1, 1) := by decide +kernel
theorem dX3_bestToSend_41 : decode cX3_bestToSend 41 = .ok (.iload 4, 2) := by decide +kernel
theorem dX3_bestToSend_43 : decode cX3_bestToSend 43 = .ok (.invokestatic 83, 3) := by decide +kernel
theorem dX3_bestToSend_46 : decode cX3_bestToSend 46 = .ok (.istore_n 3, 1) := by decide +kernel
theorem dX3_bestToSend_47 : decode cX3_bestToSend 47 = .ok (.iinc 4 1, 3) := by decide +kernel
theorem dX3_bestToSend_50 : decode cX3_bestToSend 50 = .ok (.goto (-41), 3) := by decide +kernel
theorem dX3_bestToSend_53 : decode cX3_bestToSend 53 = .ok (.iload_n 2, 1) := by decide +kernel
theorem dX3_bestToSend_54 : decode cX3_bestToSend 54 = .ok (.ireturn, 1) := by decide +kernel
theorem dX4_init_0 : decode cX4_init 0 = .ok (.aload_n 0, 1) := by decide +kernel
theorem dX4_init_1 : decode cX4_init 1 = .ok (.invokespecial 3, 3) := by decide +kernel
theorem dX4_init_4 : decode cX4_init 4 = .ok (.aload_n 0, 1) := by decide +kernel
theorem dX4_init_5 : decode cX4_init 5 = .ok (.sipush 256, 3) := by decide +kernel
theorem dX4_init_8 : decode cX4_init 8 = .ok (.newarray .int, 2) := by decide +kernel
theorem dX4_init_10 : decode cX4_init 10 = .ok (.putfield 11, 3) := by decide +kernel
theorem dX4_init_13 : decode cX4_init 13 = .ok (.aload_n 0, 1) := by decide +kernel
theorem dX4_init_14 : decode cX4_init 14 = .ok (.sipush 256, 3) := by decide +kernel
theorem dX4_init_17 : decode cX4_init 17 = .ok (.newarray .int, 2) := by decide +kernel
theorem dX4_init_19 : decode cX4_init 19 = .ok (.putfield 15, 3) := by decide +kernel
theorem dX4_init_22 : decode cX4_init 22 = .ok (.aload_n 0, 1) := by decide +kernel
theorem dX4_init_23 : decode cX4_init 23 = .ok (.iconst 0, 1) := by decide +kernel
theorem dX4_init_24 : decode cX4_init 24 = .ok (.putfield 18, 3) := by decide +kernel
theorem dX4_init_27 : decode cX4_init 27 = .ok (.aload_n 0, 1) := by decide +kernel
theorem dX4_init_28 : decode cX4_init 28 = .ok (.bipush 16, 2) := by decide +kernel
theorem dX4_init_30 : decode cX4_init 30 = .ok (.newarray .int, 2) := by decide +kernel
theorem dX4_init_32 : decode cX4_init 32 = .ok (.putfield 22, 3) := by decide +kernel
theorem dX4_init_35 : decode cX4_init 35 = .ok (.aload_n 0, 1) := by decide +kernel
theorem dX4_init_36 : decode cX4_init 36 = .ok (.bipush 16, 2) := by decide +kernel
theorem dX4_init_38 : decode cX4_init 38 = .ok (.newarray .int, 2) := by decide +kernel
theorem dX4_init_40 : decode cX4_init 40 = .ok (.putfield 25, 3) := by decide +kernel
theorem dX4_init_43 : decode cX4_init 43 = .ok (.aload_n 0, 1) := by decide +kernel
theorem dX4_init_44 : decode cX4_init 44 = .ok (.bipush 16, 2) := by decide +kernel
theorem dX4_init_46 : decode cX4_init 46 = .ok (.newarray .int, 2) := by decide +kernel
theorem dX4_init_48 : decode cX4_init 48 = .ok (.putfield 28, 3) := by decide +kernel
theorem dX4_init_51 : decode cX4_init 51 = .ok (.aload_n 0, 1) := by decide +kernel
theorem dX4_init_52 : decode cX4_init 52 = .ok (.iconst 0, 1) := by decide +kernel
theorem dX4_init_53 : decode cX4_init 53 = .ok (.putfield 31, 3) := by decide +kernel
theorem dX4_init_56 : decode cX4_init 56 = .ok (.aload_n 0, 1) := by decide +kernel
theorem dX4_init_57 : decode cX4_init 57 = .ok (.ldc 34, 2) := by decide +kernel
theorem dX4_init_59 : decode cX4_init 59 = .ok (.invokevirtual 36, 3) := by decide +kernel
theorem dX4_init_62 : decode cX4_init 62 = .ok (.newarray .int, 2) := by decide +kernel
theorem dX4_init_64 : decode cX4_init 64 = .ok (.putfield 42, 3) := by decide +kernel
theorem dX4_init_67 : decode cX4_init 67 = .ok (.aload_n 0, 1) := by decide +kernel
theorem dX4_init_68 : decode cX4_init 68 = .ok (.bipush 32, 2) := by decide +kernel
theorem dX4_init_70 : decode cX4_init 70 = .ok (.newarray .int, 2) := by decide +kernel
theorem dX4_init_72 : decode cX4_init 72 = .ok (.putfield 45, 3) := by decide +kernel
theorem dX4_init_75 : decode cX4_init 75 = .ok (.aload_n 0, 1) := by decide +kernel
theorem dX4_init_76 : decode cX4_init 76 = .ok (.iconst 0, 1) := by decide +kernel
theorem dX4_init_77 : decode cX4_init 77 = .ok (.putfield 48, 3) := by decide +kernel
theorem dX4_init_80 : decode cX4_init 80 = .ok (.return_, 1) := by decide +kernel
theorem dX4_meanOther_0 : decode cX4_meanOther 0 = .ok (.aload_n 0, 1) := by decide +kernel
theorem dX4_meanOther_1 : decode cX4_meanOther 1 = .ok (.getfield 42, 3) := by decide +kernel
theorem dX4_meanOther_4 : decode cX4_meanOther 4 = .ok (.iconst 1, 1) := by decide +kernel
theorem dX4_meanOther_5 : decode cX4_meanOther 5 = .ok (.iload_n 1, 1) := by decide +kernel
theorem dX4_meanOther_6 : decode cX4_meanOther 6 = .ok (.iastore, 1) := by decide +kernel
theorem dX4_meanOther_7 : decode cX4_meanOther 7 = .ok (.aload_n 0, 1) := by decide +kernel
theorem dX4_meanOther_8 : decode cX4_meanOther 8 = .ok (.getfield 42, 3) := by decide +kernel
theorem dX4_meanOther_11 : decode cX4_meanOther 11 = .ok (.iconst 2, 1) := by decide +kernel
theorem dX4_meanOther_12 : decode cX4_meanOther 12 = .ok (.iload_n 2, 1) := by decide +kernel
theorem dX4_meanOther_13 : decode cX4_meanOther 13 = .ok (.iastore, 1) := by decide +kernel
theorem dX4_meanOther_14 : decode cX4_meanOther 14 = .ok (.aload_n 0, 1) := by decide +kernel
theorem dX4_meanOther_15 : decode cX4_meanOther 15 = .ok (.getfield 42, 3) := by decide +kernel
theorem dX4_meanOther_18 : decode cX4_meanOther 18 = .ok (.iconst 3, 1) := by decide +kernel
theorem dX4_meanOther_19 : decode cX4_meanOther 19 = .ok (.iload_n 3, 1) := by decide +kernel
theorem dX4_meanOther_20 : decode cX4_meanOther 20 = .ok (.iastore, 1) := by decide +kernel
theorem dX4_meanOther_21 : decode cX4_meanOther 21 = .ok (.return_, 1) := by decide +kernel
theorem dX4_meanDoor_0 : decode cX4_meanDoor 0 = .ok (.aload_n 0, 1) := by decide +kernel
theorem dX4_meanDoor_1 : decode cX4_meanDoor 1 = .ok (.getfield 42, 3) := by decide +kernel
theorem dX4_meanDoor_4 : decode cX4_meanDoor 4 = .ok (.iconst 5, 1) := by decide +kernel
theorem dX4_meanDoor_5 : decode cX4_meanDoor 5 = .ok (.iload_n 1, 1) := by decide +kernel
theorem dX4_meanDoor_6 : decode cX4_meanDoor 6 = .ok (.iastore, 1) := by decide +kernel
theorem dX4_meanDoor_7 : decode cX4_meanDoor 7 = .ok (.aload_n 0, 1) := by decide +kernel
theorem dX4_meanDoor_8 : decode cX4_meanDoor 8 = .ok (.getfield 42, 3) := by decide +kernel
theorem dX4_meanDoor_11 : decode cX4_meanDoor 11 = .ok (.bipush 7, 2) := by decide +kernel
theorem dX4_meanDoor_13 : decode cX4_meanDoor 13 = .ok (.iload_n 2, 1) := by decide +kernel
theorem dX4_meanDoor_14 : decode cX4_meanDoor 14 = .ok (.iastore, 1) := by decide +kernel
theorem dX4_meanDoor_15 : decode cX4_meanDoor 15 = .ok (.return_, 1) := by decide +kernel
theorem dX4_meanTime_0 : decode cX4_meanTime 0 = .ok (.aload_n 0, 1) := by decide +kernel
theorem dX4_meanTime_1 : decode cX4_meanTime 1 = .ok (.getfield 42, 3) := by decide +kernel
theorem dX4_meanTime_4 : decode cX4_meanTime 4 = .ok (.bipush 8, 2) := by decide +kernel
theorem dX4_meanTime_6 : decode cX4_meanTime 6 = .ok (.iload_n 1, 1) := by decide +kernel
theorem dX4_meanTime_7 : decode cX4_meanTime 7 = .ok (.iastore, 1) := by decide +kernel
theorem dX4_meanTime_8 : decode cX4_meanTime 8 = .ok (.aload_n 0, 1) := by decide +kernel
theorem dX4_meanTime_9 : decode cX4_meanTime 9 = .ok (.getfield 42, 3) := by decide +kernel
theorem dX4_meanTime_12 : decode cX4_meanTime 12 = .ok (.bipush 9, 2) := by decide +kernel
theorem dX4_meanTime_14 : decode cX4_meanTime 14 = .ok (.iload_n 2, 1) := by decide +kernel
theorem dX4_meanTime_15 : decode cX4_meanTime 15 = .ok (.iastore, 1) := by decide +kernel
theorem dX4_meanTime_16 : decode cX4_meanTime 16 = .ok (.return_, 1) := by decide +kernel
theorem dX7_init_0 : decode cX7_init 0 = .ok (.aload_n 0, 1) := by decide +kernel
theorem dX7_init_1 : decode cX7_init 1 = .ok (.invokespecial 3, 3) := by decide +kernel
theorem dX7_init_4 : decode cX7_init 4 = .ok (.aload_n 0, 1) := by decide +kernel
theorem dX7_init_5 : decode cX7_init 5 = .ok (.new 9, 3) := by decide +kernel
theorem dX7_init_8 : decode cX7_init 8 = .ok (.dup, 1) := by decide +kernel
theorem dX7_init_9 : decode cX7_init 9 = .ok (.invokespecial 11, 3) := by decide +kernel
theorem dX7_init_12 : decode cX7_init 12 = .ok (.putfield 12, 3) := by decide +kernel
theorem dX7_init_15 : decode cX7_init 15 = .ok (.aload_n 0, 1) := by decide +kernel
theorem dX7_init_16 : decode cX7_init 16 = .ok (.iconst 0, 1) := by decide +kernel
theorem dX7_init_17 : decode cX7_init 17 = .ok (.putfield 18, 3) := by decide +kernel
theorem dX7_init_20 : decode cX7_init 20 = .ok (.aload_n 0, 1) := by decide +kernel
theorem dX7_init_21 : decode cX7_init 21 = .ok (.iconst 0, 1) := by decide +kernel
theorem dX7_init_22 : decode cX7_init 22 = .ok (.putfield 22, 3) := by decide +kernel
theorem dX7_init_25 : decode cX7_init 25 = .ok (.return_, 1) := by decide +kernel
theorem dX7_pass_0 : decode cX7_pass 0 = .ok (.aload_n 0, 1) := by decide +kernel
theorem dX7_pass_1 : decode cX7_pass 1 = .ok (.iconst 0, 1) := by decide +kernel
theorem dX7_pass_2 : decode cX7_pass 2 = .ok (.putfield 18, 3) := by decide +kernel
theorem dX7_pass_5 : decode cX7_pass 5 = .ok (.aload_n 0, 1) := by decide +kernel
theorem dX7_pass_6 : decode cX7_pass 6 = .ok (.iconst 0, 1) := by decide +kernel
theorem dX7_pass_7 : decode cX7_pass 7 = .ok (.putfield 22, 3) := by decide +kernel
theorem dX7_pass_10 : decode cX7_pass 10 = .ok (.iconst 0, 1) := by decide +kernel
theorem dX7_pass_11 : decode cX7_pass 11 = .ok (.istore 4, 2) := by decide +kernel
theorem dX7_pass_13 : decode cX7_pass 13 = .ok (.iload 4, 2) := by decide +kernel
theorem dX7_pass_15 : decode cX7_pass 15 = .ok (.iload_n 3, 1) := by decide +kernel
theorem dX7_pass_16 : decode cX7_pass 16 = .ok (.if_icmp .ge 68, 3) := by decide +kernel
theorem dX7_pass_19 : decode cX7_pass 19 = .ok (.aload_n 1, 1) := by decide +kernel
theorem dX7_pass_20 : decode cX7_pass 20 = .ok (.getfield 25, 3) := by decide +kernel
theorem dX7_pass_23 : decode cX7_pass 23 = .ok (.sipush 9999, 3) := by decide +kernel
theorem dX7_pass_26 : decode cX7_pass 26 = .ok (.if_icmp .ge 58, 3) := by decide +kernel
theorem dX7_pass_29 : decode cX7_pass 29 = .ok (.iconst 0, 1) := by decide +kernel
theorem dX7_pass_30 : decode cX7_pass 30 = .ok (.istore 5, 2) := by decide +kernel
theorem dX7_pass_32 : decode cX7_pass 32 = .ok (.iload 5, 2) := by decide +kernel
theorem dX7_pass_34 : decode cX7_pass 34 = .ok (.bipush 12, 2) := by decide +kernel
theorem dX7_pass_36 : decode cX7_pass 36 = .ok (.if_icmp .ge 26, 3) := by decide +kernel
theorem dX7_pass_39 : decode cX7_pass 39 = .ok (.aload_n 1, 1) := by decide +kernel
theorem dX7_pass_40 : decode cX7_pass 40 = .ok (.iload 5, 2) := by decide +kernel
theorem dX7_pass_42 : decode cX7_pass 42 = .ok (.invokevirtual 28, 3) := by decide +kernel
theorem dX7_pass_45 : decode cX7_pass 45 = .ok (.ifCond .eq 11, 3) := by decide +kernel
theorem dX7_pass_48 : decode cX7_pass 48 = .ok (.aload_n 0, 1) := by decide +kernel
theorem dX7_pass_49 : decode cX7_pass 49 = .ok (.aload_n 1, 1) := by decide +kernel
theorem dX7_pass_50 : decode cX7_pass 50 = .ok (.aload_n 2, 1) := by decide +kernel
theorem dX7_pass_51 : decode cX7_pass 51 = .ok (.iload 5, 2) := by decide +kernel
theorem dX7_pass_53 : decode cX7_pass 53 = .ok (.invokevirtual 32, 3) := by decide +kernel
theorem dX7_pass_56 : decode cX7_pass 56 = .ok (.iinc 5 1, 3) := by decide +kernel
theorem dX7_pass_59 : decode cX7_pass 59 = .ok (.goto (-27), 3) := by decide +kernel
theorem dX7_pass_62 : decode cX7_pass 62 = .ok (.aload_n 0, 1) := by decide +kernel
theorem dX7_pass_63 : decode cX7_pass 63 = .ok (.aload_n 1, 1) := by decide +kernel
theorem dX7_pass_64 : decode cX7_pass 64 = .ok (.aload_n 2, 1) := by decide +kernel
theorem dX7_pass_65 : decode cX7_pass 65 = .ok (.invokevirtual 36, 3) := by decide +kernel
theorem dX7_pass_68 : decode cX7_pass 68 = .ok (.aload_n 1, 1) := by decide +kernel
theorem dX7_pass_69 : decode cX7_pass 69 = .ok (.dup, 1) := by decide +kernel
theorem dX7_pass_70 : decode cX7_pass 70 = .ok (.getfield 25, 3) := by decide +kernel
theorem dX7_pass_73 : decode cX7_pass 73 = .ok (.iconst 1, 1) := by decide +kernel
theorem dX7_pass_74 : decode cX7_pass 74 = .ok (.iadd, 1) := by decide +kernel
theorem dX7_pass_75 : decode cX7_pass 75 = .ok (.putfield 25, 3) := by decide +kernel
theorem dX7_pass_78 : decode cX7_pass 78 = .ok (.iinc 4 1, 3) := by decide +kernel
theorem dX7_pass_81 : decode cX7_pass 81 = .ok (.goto (-68), 3) := by decide +kernel
theorem dX7_pass_84 : decode cX7_pass 84 = .ok (.return_, 1) := by decide +kernel
theorem dX7_spreadDread_0 : decode cX7_spreadDread 0 = .ok (.aload_n 0, 1) := by decide +kernel
theorem dX7_spreadDread_1 : decode cX7_spreadDread 1 = .ok (.getfield 12, 3) := by decide +kernel
theorem dX7_spreadDread_4 : decode cX7_spreadDread 4 = .ok (.aload_n 1, 1) := by decide +kernel
theorem dX7_spreadDread_5 : decode cX7_spreadDread 5 = .ok (.invokevirtual 118, 3) := by decide +kernel
theorem dX7_spreadDread_8 : decode cX7_spreadDread 8 = .ok (.aload_n 2, 1) := by decide +kernel
theorem dX7_spreadDread_9 : decode cX7_spreadDread 9 = .ok (.iconst 0, 1) := by decide +kernel
theorem dX7_spreadDread_10 : decode cX7_spreadDread 10 = .ok (.iconst 0, 1) := by decide +kernel
theorem dX7_spreadDread_11 : decode cX7_spreadDread 11 = .ok (.invokevirtual 61, 3) := by decide +kernel
theorem dX7_spreadDread_14 : decode cX7_spreadDread 14 = .ok (.aload_n 2, 1) := by decide +kernel
theorem dX7_spreadDread_15 : decode cX7_spreadDread 15 = .ok (.aload_n 1, 1) := by decide +kernel
theorem dX7_spreadDread_16 : decode cX7_spreadDread 16 = .ok (.getfield 25, 3) := by decide +kernel
theorem dX7_spreadDread_19 : decode cX7_spreadDread 19 = .ok (.bipush 100, 2) := by decide +kernel
theorem dX7_spreadDread_21 : decode cX7_spreadDread 21 = .ok (.irem, 1) := by decide +kernel
theorem dX7_spreadDread_22 : decode cX7_spreadDread 22 = .ok (.iconst 0, 1) := by decide +kernel
theorem dX7_spreadDread_23 : decode cX7_spreadDread 23 = .ok (.invokevirtual 69, 3) := by decide +kernel
theorem dX7_spreadDread_26 : decode cX7_spreadDread 26 = .ok (.iconst 0, 1) := by decide +kernel
theorem dX7_spreadDread_27 : decode cX7_spreadDread 27 = .ok (.istore_n 3, 1) := by decide +kernel
theorem dX7_spreadDread_28 : decode cX7_spreadDread 28 = .ok (.iload_n 3, 1) := by decide +kernel
theorem dX7_spreadDread_29 : decode cX7_spreadDread 29 = .ok (.bipush 12, 2) := by decide +kernel
theorem dX7_spreadDread_31 : decode cX7_spreadDread 31 = .ok (.if_icmp .ge 58, 3) := by decide +kernel
theorem dX7_spreadDread_34 : decode cX7_spreadDread 34 = .ok (.iload_n 3, 1) := by decide +kernel
theorem dX7_spreadDread_35 : decode cX7_spreadDread 35 = .ok (.iconst 1, 1) := by decide +kernel
theorem dX7_spreadDread_36 : decode cX7_spreadDread 36 = .ok (.iadd, 1) := by decide +kernel
theorem dX7_spreadDread_37 : decode cX7_spreadDread 37 = .ok (.istore 4, 2) := by decide +kernel
theorem dX7_spreadDread_39 : decode cX7_spreadDread 39 = .ok (.iload 4, 2) := by decide +kernel
theorem dX7_spreadDread_41 : decode cX7_spreadDread 41 = .ok (.bipush 12, 2) := by decide +kernel
theorem dX7_spreadDread_43 : decode cX7_spreadDread 43 = .ok (.if_icmp .ge 40, 3) := by decide +kernel
theorem dX7_spreadDread_46 : decode cX7_spreadDread 46 = .ok (.aload_n 1, 1) := by decide +kernel
theorem dX7_spreadDread_47 : decode cX7_spreadDread 47 = .ok (.iload_n 3, 1) := by decide +kernel
theorem dX7_spreadDread_48 : decode cX7_spreadDread 48 = .ok (.invokevirtual 44, 3) := by decide +kernel
theorem dX7_spreadDread_51 : decode cX7_spreadDread 51 = .ok (.iload 4, 2) := by decide +kernel
theorem dX7_spreadDread_53 : decode cX7_spreadDread 53 = .ok (.invokestatic 122, 3) := by decide +kernel
theorem dX7_spreadDread_56 : decode cX7_spreadDread 56 = .ok (.ifCond .eq 21, 3) := by decide +kernel
theorem dX7_spreadDread_59 : decode cX7_spreadDread 59 = .ok (.aload_n 0, 1) := by decide +kernel
theorem dX7_spreadDread_60 : decode cX7_spreadDread 60 = .ok (.aload_n 1, 1) := by decide +kernel
theorem dX7_spreadDread_61 : decode cX7_spreadDread 61 = .ok (.aload_n 2, 1) := by decide +kernel
theorem dX7_spreadDread_62 : decode cX7_spreadDread 62 = .ok (.iload_n 3, 1) := by decide +kernel
theorem dX7_spreadDread_63 : decode cX7_spreadDread 63 = .ok (.iload 4, 2) := by decide +kernel
theorem dX7_spreadDread_65 : decode cX7_spreadDread 65 = .ok (.invokevirtual 125, 3) := by decide +kernel
theorem dX7_spreadDread_68 : decode cX7_spreadDread 68 = .ok (.aload_n 0, 1) := by decide +kernel
theorem dX7_spreadDread_69 : decode cX7_spreadDread 69 = .ok (.aload_n 1, 1) := by decide +kernel
theorem dX7_spreadDread_70 : decode cX7_spreadDread 70 = .ok (.aload_n 2, 1) := by decide +kernel
theorem dX7_spreadDread_71 : decode cX7_spreadDread 71 = .ok (.iload 4, 2) := by decide +kernel
theorem dX7_spreadDread_73 : decode cX7_spreadDread 73 = .ok (.iload_n 3, 1) := by decide +kernel
theorem dX7_spreadDread_74 : decode cX7_spreadDread 74 = .ok (.invokevirtual 125, 3) := by decide +kernel
theorem dX7_spreadDread_77 : decode cX7_spreadDread 77 = .ok (.iinc 4 1, 3) := by decide +kernel
theorem dX7_spreadDread_80 : decode cX7_spreadDread 80 = .ok (.goto (-41), 3) := by decide +kernel
theorem dX7_spreadDread_83 : decode cX7_spreadDread 83 = .ok (.iinc 3 1, 3) := by decide +kernel
theorem dX7_spreadDread_86 : decode cX7_spreadDread 86 = .ok (.goto (-58), 3) := by decide +kernel
theorem dX7_spreadDread_89 : decode cX7_spreadDread 89 = .ok (.return_, 1) := by decide +kernel
theorem dX9_init_0 : decode cX9_init 0 = .ok (.aload_n 0, 1) := by decide +kernel
theorem dX9_init_1 : decode cX9_init 1 = .ok (.invokespecial 3, 3) := by decide +kernel
theorem dX9_init_4 : decode cX9_init 4 = .ok (.aload_n 0, 1) := by decide +kernel
theorem dX9_init_5 : decode cX9_init 5 = .ok (.bipush 6, 2) := by decide +kernel
theorem dX9_init_7 : decode cX9_init 7 = .ok (.newarray .int, 2) := by decide +kernel
theorem dX9_init_9 : decode cX9_init 9 = .ok (.putfield 9, 3) := by decide +kernel
theorem dX9_init_12 : decode cX9_init 12 = .ok (.aload_n 0, 1) := by decide +kernel
theorem dX9_init_13 : decode cX9_init 13 = .ok (.sipush 129, 3) := by decide +kernel
theorem dX9_init_16 : decode cX9_init 16 = .ok (.newarray .long, 2) := by decide +kernel
theorem dX9_init_18 : decode cX9_init 18 = .ok (.putfield 15, 3) := by decide +kernel
theorem dX9_init_21 : decode cX9_init 21 = .ok (.return_, 1) := by decide +kernel
theorem dX9_wordsWeighing_0 : decode cX9_wordsWeighing 0 = .ok (.iconst 0, 1) := by decide +kernel
theorem dX9_wordsWeighing_1 : decode cX9_wordsWeighing 1 = .ok (.istore 4, 2) := by decide +kernel
theorem dX9_wordsWeighing_3 : decode cX9_wordsWeighing 3 = .ok (.iload 4, 2) := by decide +kernel
theorem dX9_wordsWeighing_5 : decode cX9_wordsWeighing 5 = .ok (.aload_n 0, 1) := by decide +kernel
theorem dX9_wordsWeighing_6 : decode cX9_wordsWeighing 6 = .ok (.getfield 15, 3) := by decide +kernel
theorem dX9_wordsWeighing_9 : decode cX9_wordsWeighing 9 = .ok (.arraylength, 1) := by decide +kernel
theorem dX9_wordsWeighing_10 : decode cX9_wordsWeighing 10 = .ok (.if_icmp .ge 17, 3) := by decide +kernel
theorem dX9_wordsWeighing_13 : decode cX9_wordsWeighing 13 = .ok (.aload_n 0, 1) := by decide +kernel
theorem dX9_wordsWeighing_14 : decode cX9_wordsWeighing 14 = .ok (.getfield 15, 3) := by decide +kernel
theorem dX9_wordsWeighing_17 : decode cX9_wordsWeighing 17 = .ok (.iload 4, 2) := by decide +kernel
theorem dX9_wordsWeighing_19 : decode cX9_wordsWeighing 19 = .ok (.lconst 0, 1) := by decide +kernel
theorem dX9_wordsWeighing_20 : decode cX9_wordsWeighing 20 = .ok (.lastore, 1) := by decide +kernel
theorem dX9_wordsWeighing_21 : decode cX9_wordsWeighing 21 = .ok (.iinc 4 1, 3) := by decide +kernel
theorem dX9_wordsWeighing_24 : decode cX9_wordsWeighing 24 = .ok (.goto (-21), 3) := by decide +kernel
theorem dX9_wordsWeighing_27 : decode cX9_wordsWeighing 27 = .ok (.aload_n 0, 1) := by decide +kernel
theorem dX9_wordsWeighing_28 : decode cX9_wordsWeighing 28 = .ok (.getfield 15, 3) := by decide +kernel
theorem dX9_wordsWeighing_31 : decode cX9_wordsWeighing 31 = .ok (.iconst 0, 1) := by decide +kernel
theorem dX9_wordsWeighing_32 : decode cX9_wordsWeighing 32 = .ok (.lconst 1, 1) := by decide +kernel
theorem dX9_wordsWeighing_33 : decode cX9_wordsWeighing 33 = .ok (.lastore, 1) := by decide +kernel
theorem dX9_wordsWeighing_34 : decode cX9_wordsWeighing 34 = .ok (.iconst 0, 1) := by decide +kernel
theorem dX9_wordsWeighing_35 : decode cX9_wordsWeighing 35 = .ok (.istore 4, 2) := by decide +kernel
theorem dX9_wordsWeighing_37 : decode cX9_wordsWeighing 37 = .ok (.iload 4, 2) := by decide +kernel
theorem dX9_wordsWeighing_39 : decode cX9_wordsWeighing 39 = .ok (.iload_n 1, 1) := by decide +kernel
theorem dX9_wordsWeighing_40 : decode cX9_wordsWeighing 40 = .ok (.if_icmp .ge 43, 3) := by decide +kernel
theorem dX9_wordsWeighing_43 : decode cX9_wordsWeighing 43 = .ok (.aload_n 0, 1) := by decide +kernel
theorem dX9_wordsWeighing_44 : decode cX9_wordsWeighing 44 = .ok (.getfield 15, 3) := by decide +kernel
theorem dX9_wordsWeighing_47 : decode cX9_wordsWeighing 47 = .ok (.arraylength, 1) := by decide +kernel
theorem dX9_wordsWeighing_48 : decode cX9_wordsWeighing 48 = .ok (.iconst 1, 1) := by decide +kernel
theorem dX9_wordsWeighing_49 : decode cX9_wordsWeighing 49 = .ok (.isub, 1) := by decide +kernel
theorem dX9_wordsWeighing_50 : decode cX9_wordsWeighing 50 = .ok (.istore 5, 2) := by decide +kernel
theorem dX9_wordsWeighing_52 : decode cX9_wordsWeighing 52 = .ok (.iload 5, 2) := by decide +kernel
theorem dX9_wordsWeighing_54 : decode cX9_wordsWeighing 54 = .ok (.ifCond .lt 23, 3) := by decide +kernel
theorem dX9_wordsWeighing_57 : decode cX9_wordsWeighing 57 = .ok (.aload_n 0, 1) := by decide +kernel
theorem dX9_wordsWeighing_58 : decode cX9_wordsWeighing 58 = .ok (.getfield 15, 3) := by decide +kernel
theorem dX9_wordsWeighing_61 : decode cX9_wordsWeighing 61 = .ok (.iload 5, 2) := by decide +kernel
theorem dX9_wordsWeighing_63 : decode cX9_wordsWeighing 63 = .ok (.aload_n 0, 1) := by decide +kernel
theorem dX9_wordsWeighing_64 : decode cX9_wordsWeighing 64 = .ok (.iload_n 2, 1) := by decide +kernel
theorem dX9_wordsWeighing_65 : decode cX9_wordsWeighing 65 = .ok (.iload 5, 2) := by decide +kernel
theorem dX9_wordsWeighing_67 : decode cX9_wordsWeighing 67 = .ok (.invokevirtual 51, 3) := by decide +kernel
theorem dX9_wordsWeighing_70 : decode cX9_wordsWeighing 70 = .ok (.lastore, 1) := by decide +kernel
theorem dX9_wordsWeighing_71 : decode cX9_wordsWeighing 71 = .ok (.iinc 5 (-1), 3) := by decide +kernel
theorem dX9_wordsWeighing_74 : decode cX9_wordsWeighing 74 = .ok (.goto (-22), 3) := by decide +kernel
theorem dX9_wordsWeighing_77 : decode cX9_wordsWeighing 77 = .ok (.iinc 4 1, 3) := by decide +kernel
theorem dX9_wordsWeighing_80 : decode cX9_wordsWeighing 80 = .ok (.goto (-43), 3) := by decide +kernel
theorem dX9_wordsWeighing_83 : decode cX9_wordsWeighing 83 = .ok (.iload_n 3, 1) := by decide +kernel
theorem dX9_wordsWeighing_84 : decode cX9_wordsWeighing 84 = .ok (.ifCond .lt 21, 3) := by decide +kernel
theorem dX9_wordsWeighing_87 : decode cX9_wordsWeighing 87 = .ok (.iload_n 3, 1) := by decide +kernel
theorem dX9_wordsWeighing_88 : decode cX9_wordsWeighing 88 = .ok (.aload_n 0, 1) := by decide +kernel
theorem dX9_wordsWeighing_89 : decode cX9_wordsWeighing 89 = .ok (.getfield 15, 3) := by decide +kernel
theorem dX9_wordsWeighing_92 : decode cX9_wordsWeighing 92 = .ok (.arraylength, 1) := by decide +kernel
theorem dX9_wordsWeighing_93 : decode cX9_wordsWeighing 93 = .ok (.if_icmp .ge 12, 3) := by decide +kernel
theorem dX9_wordsWeighing_96 : decode cX9_wordsWeighing 96 = .ok (.aload_n 0, 1) := by decide +kernel
theorem dX9_wordsWeighing_97 : decode cX9_wordsWeighing 97 = .ok (.getfield 15, 3) := by decide +kernel
theorem dX9_wordsWeighing_100 : decode cX9_wordsWeighing 100 = .ok (.iload_n 3, 1) := by decide +kernel
theorem dX9_wordsWeighing_101 : decode cX9_wordsWeighing 101 = .ok (.laload, 1) := by decide +kernel
theorem dX9_wordsWeighing_102 : decode cX9_wordsWeighing 102 = .ok (.goto 4, 3) := by decide +kernel
theorem dX9_wordsWeighing_105 : decode cX9_wordsWeighing 105 = .ok (.lconst 0, 1) := by decide +kernel
theorem dX9_wordsWeighing_106 : decode cX9_wordsWeighing 106 = .ok (.lreturn, 1) := by decide +kernel
theorem dX9_wordsWithOneMore_0 : decode cX9_wordsWithOneMore 0 = .ok (.lconst 0, 1) := by decide +kernel
theorem dX9_wordsWithOneMore_1 : decode cX9_wordsWithOneMore 1 = .ok (.lstore_n 3, 1) := by decide +kernel
theorem dX9_wordsWithOneMore_2 : decode cX9_wordsWithOneMore 2 = .ok (.iconst 0, 1) := by decide +kernel
theorem dX9_wordsWithOneMore_3 : decode cX9_wordsWithOneMore 3 = .ok (.istore 5, 2) := by decide +kernel
theorem dX9_wordsWithOneMore_5 : decode cX9_wordsWithOneMore 5 = .ok (.iload 5, 2) := by decide +kernel
theorem dX9_wordsWithOneMore_7 : decode cX9_wordsWithOneMore 7 = .ok (.bipush 16, 2) := by decide +kernel
theorem dX9_wordsWithOneMore_9 : decode cX9_wordsWithOneMore 9 = .ok (.if_icmp .ge 51, 3) := by decide +kernel
theorem dX9_wordsWithOneMore_12 : decode cX9_wordsWithOneMore 12 = .ok (.iload_n 2, 1) := by decide +kernel
theorem dX9_wordsWithOneMore_13 : decode cX9_wordsWithOneMore 13 = .ok (.iload 5, 2) := by decide +kernel
theorem dX9_wordsWithOneMore_15 : decode cX9_wordsWithOneMore 15 = .ok (.iconst 1, 1) := by decide +kernel
theorem dX9_wordsWithOneMore_16 : decode cX9_wordsWithOneMore 16 = .ok (.iadd, 1) := by decide +kernel
theorem dX9_wordsWithOneMore_17 : decode cX9_wordsWithOneMore 17 = .ok (.isub, 1) := by decide +kernel
theorem dX9_wordsWithOneMore_18 : decode cX9_wordsWithOneMore 18 = .ok (.istore 6, 2) := by decide +kernel
theorem dX9_wordsWithOneMore_20 : decode cX9_wordsWithOneMore 20 = .ok (.iload_n 1, 1) := by decide +kernel
theorem dX9_wordsWithOneMore_21 : decode cX9_wordsWithOneMore 21 = .ok (.iload 5, 2) := by decide +kernel
theorem dX9_wordsWithOneMore_23 : decode cX9_wordsWithOneMore 23 = .ok (.invokestatic 31, 3) := by decide +kernel
theorem dX9_wordsWithOneMore_26 : decode cX9_wordsWithOneMore 26 = .ok (.ifCond .eq 28, 3) := by decide +kernel
theorem dX9_wordsWithOneMore_29 : decode cX9_wordsWithOneMore 29 = .ok (.iload 6, 2) := by decide +kernel
theorem dX9_wordsWithOneMore_31 : decode cX9_wordsWithOneMore 31 = .ok (.ifCond .lt 23, 3) := by decide +kernel
theorem dX9_wordsWithOneMore_34 : decode cX9_wordsWithOneMore 34 = .ok (.iload 6, 2) := by decide +kernel
theorem dX9_wordsWithOneMore_36 : decode cX9_wordsWithOneMore 36 = .ok (.aload_n 0, 1) := by decide +kernel
theorem dX9_wordsWithOneMore_37 : decode cX9_wordsWithOneMore 37 = .ok (.getfield 15, 3) := by decide +kernel
theorem dX9_wordsWithOneMore_40 : decode cX9_wordsWithOneMore 40 = .ok (.arraylength, 1) := by decide +kernel
theorem dX9_wordsWithOneMore_41 : decode cX9_wordsWithOneMore 41 = .ok (.if_icmp .ge 13, 3) := by decide +kernel
theorem dX9_wordsWithOneMore_44 : decode cX9_wordsWithOneMore 44 = .ok (.lload_n 3, 1) := by decide +kernel
theorem dX9_wordsWithOneMore_45 : decode cX9_wordsWithOneMore 45 = .ok (.aload_n 0, 1) := by decide +kernel
theorem dX9_wordsWithOneMore_46 : decode cX9_wordsWithOneMore 46 = .ok (.getfield 15, 3) := by decide +kernel
theorem dX9_wordsWithOneMore_49 : decode cX9_wordsWithOneMore 49 = .ok (.iload 6, 2) := by decide +kernel
theorem dX9_wordsWithOneMore_51 : decode cX9_wordsWithOneMore 51 = .ok (.laload, 1) := by decide +kernel
theorem dX9_wordsWithOneMore_52 : decode cX9_wordsWithOneMore 52 = .ok (.ladd, 1) := by decide +kernel
theorem dX9_wordsWithOneMore_53 : decode cX9_wordsWithOneMore 53 = .ok (.lstore_n 3, 1) := by decide +kernel
theorem dX9_wordsWithOneMore_54 : decode cX9_wordsWithOneMore 54 = .ok (.iinc 5 1, 3) := by decide +kernel
theorem dX9_wordsWithOneMore_57 : decode cX9_wordsWithOneMore 57 = .ok (.goto (-52), 3) := by decide +kernel
theorem dX9_wordsWithOneMore_60 : decode cX9_wordsWithOneMore 60 = .ok (.lload_n 3, 1) := by decide +kernel
theorem dX9_wordsWithOneMore_61 : decode cX9_wordsWithOneMore 61 = .ok (.lreturn, 1) := by decide +kernel
theorem dX10_init_0 : decode cX10_init 0 = .ok (.aload_n 0, 1) := by decide +kernel
theorem dX10_init_1 : decode cX10_init 1 = .ok (.invokespecial 3, 3) := by decide +kernel
theorem dX10_init_4 : decode cX10_init 4 = .ok (.aload_n 0, 1) := by decide +kernel
theorem dX10_init_5 : decode cX10_init 5 = .ok (.sipush 260, 3) := by decide +kernel
theorem dX10_init_8 : decode cX10_init 8 = .ok (.newarray .int, 2) := by decide +kernel
theorem dX10_init_10 : decode cX10_init 10 = .ok (.putfield 9, 3) := by decide +kernel
theorem dX10_init_13 : decode cX10_init 13 = .ok (.aload_n 0, 1) := by decide +kernel
theorem dX10_init_14 : decode cX10_init 14 = .ok (.iconst 0, 1) := by decide +kernel
theorem dX10_init_15 : decode cX10_init 15 = .ok (.putfield 15, 3) := by decide +kernel
theorem dX10_init_18 : decode cX10_init 18 = .ok (.aload_n 0, 1) := by decide +kernel
theorem dX10_init_19 : decode cX10_init 19 = .ok (.iconst 0, 1) := by decide +kernel
theorem dX10_init_20 : decode cX10_init 20 = .ok (.putfield 19, 3) := by decide +kernel
theorem dX10_init_23 : decode cX10_init 23 = .ok (.aload_n 0, 1) := by decide +kernel
theorem dX10_init_24 : decode cX10_init 24 = .ok (.iconst 0, 1) := by decide +kernel
theorem dX10_init_25 : decode cX10_init 25 = .ok (.putfield 22, 3) := by decide +kernel
theorem dX10_init_28 : decode cX10_init 28 = .ok (.aload_n 0, 1) := by decide +kernel
theorem dX10_init_29 : decode cX10_init 29 = .ok (.iconst 0, 1) := by decide +kernel
theorem dX10_init_30 : decode cX10_init 30 = .ok (.putfield 25, 3) := by decide +kernel
theorem dX10_init_33 : decode cX10_init 33 = .ok (.return_, 1) := by decide +kernel
theorem dX10_append_0 : decode cX10_append 0 = .ok (.bipush 24, 2) := by decide +kernel
theorem dX10_append_2 : decode cX10_append 2 = .ok (.istore_n 2, 1) := by decide +kernel
theorem dX10_append_3 : decode cX10_append 3 = .ok (.iload_n 2, 1) := by decide +kernel
theorem dX10_append_4 : decode cX10_append 4 = .ok (.ifCond .lt 54, 3) := by decide +kernel
theorem dX10_append_7 : decode cX10_append 7 = .ok (.aload_n 0, 1) := by decide +kernel
theorem dX10_append_8 : decode cX10_append 8 = .ok (.getfield 15, 3) := by decide +kernel
theorem dX10_append_11 : decode cX10_append 11 = .ok (.ifCond .lt 41, 3) := by decide +kernel
theorem dX10_append_14 : decode cX10_append 14 = .ok (.aload_n 0, 1) := by decide +kernel
theorem dX10_append_15 : decode cX10_append 15 = .ok (.getfield 15, 3) := by decide +kernel
theorem dX10_append_18 : decode cX10_append 18 = .ok (.aload_n 0, 1) := by decide +kernel
theorem dX10_append_19 : decode cX10_append 19 = .ok (.getfield 9, 3) := by decide +kernel
theorem dX10_append_22 : decode cX10_append 22 = .ok (.arraylength, 1) := by decide +kernel
theorem dX10_append_23 : decode cX10_append 23 = .ok (.if_icmp .ge 29, 3) := by decide +kernel
theorem dX10_append_26 : decode cX10_append 26 = .ok (.aload_n 0, 1) := by decide +kernel
theorem dX10_append_27 : decode cX10_append 27 = .ok (.getfield 9, 3) := by decide +kernel
theorem dX10_append_30 : decode cX10_append 30 = .ok (.aload_n 0, 1) := by decide +kernel
theorem dX10_append_31 : decode cX10_append 31 = .ok (.getfield 15, 3) := by decide +kernel
theorem dX10_append_34 : decode cX10_append 34 = .ok (.iload_n 1, 1) := by decide +kernel
theorem dX10_append_35 : decode cX10_append 35 = .ok (.iload_n 2, 1) := by decide +kernel
theorem dX10_append_36 : decode cX10_append 36 = .ok (.ishr, 1) := by decide +kernel
theorem dX10_append_37 : decode cX10_append 37 = .ok (.sipush 255, 3) := by decide +kernel
theorem dX10_append_40 : decode cX10_append 40 = .ok (.iand, 1) := by decide +kernel
theorem dX10_append_41 : decode cX10_append 41 = .ok (.iastore, 1) := by decide +kernel
theorem dX10_append_42 : decode cX10_append 42 = .ok (.aload_n 0, 1) := by decide +kernel
theorem dX10_append_43 : decode cX10_append 43 = .ok (.dup, 1) := by decide +kernel
theorem dX10_append_44 : decode cX10_append 44 = .ok (.getfield 15, 3) := by decide +kernel
theorem dX10_append_47 : decode cX10_append 47 = .ok (.iconst 1, 1) := by decide +kernel
theorem dX10_append_48 : decode cX10_append 48 = .ok (.iadd, 1) := by decide +kernel
theorem dX10_append_49 : decode cX10_append 49 = .ok (.putfield 15, 3) := by decide +kernel
theorem dX10_append_52 : decode cX10_append 52 = .ok (.iinc 2 (-8), 3) := by decide +kernel
theorem dX10_append_55 : decode cX10_append 55 = .ok (.goto (-52), 3) := by decide +kernel
theorem dX10_append_58 : decode cX10_append 58 = .ok (.return_, 1) := by decide +kernel
theorem dX10_holds_0 : decode cX10_holds 0 = .ok (.iload_n 1, 1) := by decide +kernel
theorem dX10_holds_1 : decode cX10_holds 1 = .ok (.iload_n 2, 1) := by decide +kernel
theorem dX10_holds_2 : decode cX10_holds 2 = .ok (.if_icmp .lt 20, 3) := by decide +kernel
theorem dX10_holds_5 : decode cX10_holds 5 = .ok (.iload_n 1, 1) := by decide +kernel
theorem dX10_holds_6 : decode cX10_holds 6 = .ok (.iload_n 3, 1) := by decide +kernel
theorem dX10_holds_7 : decode cX10_holds 7 = .ok (.if_icmp .gt 15, 3) := by decide +kernel
theorem dX10_holds_10 : decode cX10_holds 10 = .ok (.iload_n 1, 1) := by decide +kernel
theorem dX10_holds_11 : decode cX10_holds 11 = .ok (.aload_n 0, 1) := by decide +kernel
theorem dX10_holds_12 : decode cX10_holds 12 = .ok (.getfield 15, 3) := by decide +kernel
theorem dX10_holds_15 : decode cX10_holds 15 = .ok (.if_icmp .gt 7, 3) := by decide +kernel
theorem dX10_holds_18 : decode cX10_holds 18 = .ok (.iconst 1, 1) := by decide +kernel
theorem dX10_holds_19 : decode cX10_holds 19 = .ok (.goto 4, 3) := by decide +kernel
theorem dX10_holds_22 : decode cX10_holds 22 = .ok (.iconst 0, 1) := by decide +kernel
theorem dX10_holds_23 : decode cX10_holds 23 = .ok (.ireturn, 1) := by decide +kernel
theorem dX10_take_0 : decode cX10_take 0 = .ok (.aload_n 0, 1) := by decide +kernel
theorem dX10_take_1 : decode cX10_take 1 = .ok (.iload_n 1, 1) := by decide +kernel
theorem dX10_take_2 : decode cX10_take 2 = .ok (.putfield 19, 3) := by decide +kernel
theorem dX10_take_5 : decode cX10_take 5 = .ok (.aload_n 0, 1) := by decide +kernel
theorem dX10_take_6 : decode cX10_take 6 = .ok (.iconst 0, 1) := by decide +kernel
theorem dX10_take_7 : decode cX10_take 7 = .ok (.putfield 22, 3) := by decide +kernel
theorem dX10_take_10 : decode cX10_take 10 = .ok (.aload_n 0, 1) := by decide +kernel
theorem dX10_take_11 : decode cX10_take 11 = .ok (.iconst 0, 1) := by decide +kernel
theorem dX10_take_12 : decode cX10_take 12 = .ok (.putfield 25, 3) := by decide +kernel
theorem dX10_take_15 : decode cX10_take 15 = .ok (.aload_n 0, 1) := by decide +kernel
theorem dX10_take_16 : decode cX10_take 16 = .ok (.iconst 0, 1) := by decide +kernel
theorem dX10_take_17 : decode cX10_take 17 = .ok (.putfield 15, 3) := by decide +kernel
theorem dX10_take_20 : decode cX10_take 20 = .ok (.return_, 1) := by decide +kernel
theorem dX11_init_0 : decode cX11_init 0 = .ok (.aload_n 0, 1) := by decide +kernel
theorem dX11_init_1 : decode cX11_init 1 = .ok (.invokespecial 3, 3) := by decide +kernel
theorem dX11_init_4 : decode cX11_init 4 = .ok (.aload_n 0, 1) := by decide +kernel
theorem dX11_init_5 : decode cX11_init 5 = .ok (.new 9, 3) := by decide +kernel
theorem dX11_init_8 : decode cX11_init 8 = .ok (.dup, 1) := by decide +kernel
theorem dX11_init_9 : decode cX11_init 9 = .ok (.invokespecial 11, 3) := by decide +kernel
theorem dX11_init_12 : decode cX11_init 12 = .ok (.putfield 12, 3) := by decide +kernel
theorem dX11_init_15 : decode cX11_init 15 = .ok (.aload_n 0, 1) := by decide +kernel
theorem dX11_init_16 : decode cX11_init 16 = .ok (.new 16, 3) := by decide +kernel
theorem dX11_init_19 : decode cX11_init 19 = .ok (.dup, 1) := by decide +kernel
theorem dX11_init_20 : decode cX11_init 20 = .ok (.invokespecial 18, 3) := by decide +kernel
theorem dX11_init_23 : decode cX11_init 23 = .ok (.putfield 19, 3) := by decide +kernel
theorem dX11_init_26 : decode cX11_init 26 = .ok (.aload_n 0, 1) := by decide +kernel
theorem dX11_init_27 : decode cX11_init 27 = .ok (.new 16, 3) := by decide +kernel
theorem dX11_init_30 : decode cX11_init 30 = .ok (.dup, 1) := by decide +kernel
theorem dX11_init_31 : decode cX11_init 31 = .ok (.invokespecial 18, 3) := by decide +kernel
theorem dX11_init_34 : decode cX11_init 34 = .ok (.putfield 23, 3) := by decide +kernel
theorem dX11_init_37 : decode cX11_init 37 = .ok (.aload_n 0, 1) := by decide +kernel
theorem dX11_init_38 : decode cX11_init 38 = .ok (.new 16, 3) := by decide +kernel
theorem dX11_init_41 : decode cX11_init 41 = .ok (.dup, 1) := by decide +kernel
theorem dX11_init_42 : decode cX11_init 42 = .ok (.invokespecial 18, 3) := by decide +kernel
theorem dX11_init_45 : decode cX11_init 45 = .ok (.putfield 26, 3) := by decide +kernel
theorem dX11_init_48 : decode cX11_init 48 = .ok (.aload_n 0, 1) := by decide +kernel
theorem dX11_init_49 : decode cX11_init 49 = .ok (.iconst 0, 1) := by decide +kernel
theorem dX11_init_50 : decode cX11_init 50 = .ok (.putfield 29, 3) := by decide +kernel
theorem dX11_init_53 : decode cX11_init 53 = .ok (.aload_n 0, 1) := by decide +kernel
theorem dX11_init_54 : decode cX11_init 54 = .ok (.new 33, 3) := by decide +kernel
theorem dX11_init_57 : decode cX11_init 57 = .ok (.dup, 1) := by decide +kernel
theorem dX11_init_58 : decode cX11_init 58 = .ok (.invokespecial 35, 3) := by decide +kernel
theorem dX11_init_61 : decode cX11_init 61 = .ok (.putfield 36, 3) := by decide +kernel
theorem dX11_init_64 : decode cX11_init 64 = .ok (.aload_n 0, 1) := by decide +kernel
theorem dX11_init_65 : decode cX11_init 65 = .ok (.new 33, 3) := by decide +kernel
theorem dX11_init_68 : decode cX11_init 68 = .ok (.dup, 1) := by decide +kernel
theorem dX11_init_69 : decode cX11_init 69 = .ok (.invokespecial 35, 3) := by decide +kernel
theorem dX11_init_72 : decode cX11_init 72 = .ok (.putfield 40, 3) := by decide +kernel
theorem dX11_init_75 : decode cX11_init 75 = .ok (.aload_n 0, 1) := by decide +kernel
theorem dX11_init_76 : decode cX11_init 76 = .ok (.new 43, 3) := by decide +kernel
theorem dX11_init_79 : decode cX11_init 79 = .ok (.dup, 1) := by decide +kernel
theorem dX11_init_80 : decode cX11_init 80 = .ok (.invokespecial 45, 3) := by decide +kernel
theorem dX11_init_83 : decode cX11_init 83 = .ok (.putfield 46, 3) := by decide +kernel
theorem dX11_init_86 : decode cX11_init 86 = .ok (.aload_n 0, 1) := by decide +kernel
theorem dX11_init_87 : decode cX11_init 87 = .ok (.new 50, 3) := by decide +kernel
theorem dX11_init_90 : decode cX11_init 90 = .ok (.dup, 1) := by decide +kernel
theorem dX11_init_91 : decode cX11_init 91 = .ok (.invokespecial 52, 3) := by decide +kernel
theorem dX11_init_94 : decode cX11_init 94 = .ok (.putfield 53, 3) := by decide +kernel
theorem dX11_init_97 : decode cX11_init 97 = .ok (.aload_n 0, 1) := by decide +kernel
theorem dX11_init_98 : decode cX11_init 98 = .ok (.new 57, 3) := by decide +kernel
theorem dX11_init_101 : decode cX11_init 101 = .ok (.dup, 1) := by decide +kernel
theorem dX11_init_102 : decode cX11_init 102 = .ok (.invokespecial 59, 3) := by decide +kernel
theorem dX11_init_105 : decode cX11_init 105 = .ok (.putfield 60, 3) := by decide +kernel
theorem dX11_init_108 : decode cX11_init 108 = .ok (.aload_n 0, 1) := by decide +kernel
theorem dX11_init_109 : decode cX11_init 109 = .ok (.new 64, 3) := by decide +kernel
theorem dX11_init_112 : decode cX11_init 112 = .ok (.dup, 1) := by decide +kernel
theorem dX11_init_113 : decode cX11_init 113 = .ok (.invokespecial 66, 3) := by decide +kernel
theorem dX11_init_116 : decode cX11_init 116 = .ok (.putfield 67, 3) := by decide +kernel
theorem dX11_init_119 : decode cX11_init 119 = .ok (.return_, 1) := by decide +kernel
theorem dX11_feed_0 : decode cX11_feed 0 = .ok (.aload_n 0, 1) := by decide +kernel
theorem dX11_feed_1 : decode cX11_feed 1 = .ok (.getfield 12, 3) := by decide +kernel
theorem dX11_feed_4 : decode cX11_feed 4 = .ok (.getfield 71, 3) := by decide +kernel
theorem dX11_feed_7 : decode cX11_feed 7 = .ok (.sipush 240, 3) := by decide +kernel
theorem dX11_feed_10 : decode cX11_feed 10 = .ok (.if_icmp .le 5, 3) := by decide +kernel
theorem dX11_feed_13 : decode cX11_feed 13 = .ok (.iconst (-1), 1) := by decide +kernel
theorem dX11_feed_14 : decode cX11_feed 14 = .ok (.ireturn, 1) := by decide +kernel
theorem dX11_feed_15 : decode cX11_feed 15 = .ok (.aload_n 0, 1) := by decide +kernel
theorem dX11_feed_16 : decode cX11_feed 16 = .ok (.getfield 12, 3) := by decide +kernel
theorem dX11_feed_19 : decode cX11_feed 19 = .ok (.iload_n 1, 1) := by decide +kernel
theorem dX11_feed_20 : decode cX11_feed 20 = .ok (.invokevirtual 75, 3) := by decide +kernel
theorem dX11_feed_23 : decode cX11_feed 23 = .ok (.aload_n 0, 1) := by decide +kernel
theorem dX11_feed_24 : decode cX11_feed 24 = .ok (.getfield 12, 3) := by decide +kernel
theorem dX11_feed_27 : decode cX11_feed 27 = .ok (.iload_n 2, 1) := by decide +kernel
theorem dX11_feed_28 : decode cX11_feed 28 = .ok (.invokevirtual 75, 3) := by decide +kernel
theorem dX11_feed_31 : decode cX11_feed 31 = .ok (.aload_n 0, 1) := by decide +kernel
theorem dX11_feed_32 : decode cX11_feed 32 = .ok (.getfield 12, 3) := by decide +kernel
theorem dX11_feed_35 : decode cX11_feed 35 = .ok (.iload_n 3, 1) := by decide +kernel
theorem dX11_feed_36 : decode cX11_feed 36 = .ok (.invokevirtual 75, 3) := by decide +kernel
theorem dX11_feed_39 : decode cX11_feed 39 = .ok (.aload_n 0, 1) := by decide +kernel
theorem dX11_feed_40 : decode cX11_feed 40 = .ok (.getfield 12, 3) := by decide +kernel
theorem dX11_feed_43 : decode cX11_feed 43 = .ok (.iload 4, 2) := by decide +kernel
theorem dX11_feed_45 : decode cX11_feed 45 = .ok (.invokevirtual 75, 3) := by decide +kernel
theorem dX11_feed_48 : decode cX11_feed 48 = .ok (.aload_n 0, 1) := by decide +kernel
theorem dX11_feed_49 : decode cX11_feed 49 = .ok (.getfield 12, 3) := by decide +kernel
theorem dX11_feed_52 : decode cX11_feed 52 = .ok (.iload 5, 2) := by decide +kernel
theorem dX11_feed_54 : decode cX11_feed 54 = .ok (.invokevirtual 75, 3) := by decide +kernel
theorem dX11_feed_57 : decode cX11_feed 57 = .ok (.aload_n 0, 1) := by decide +kernel
theorem dX11_feed_58 : decode cX11_feed 58 = .ok (.getfield 12, 3) := by decide +kernel
theorem dX11_feed_61 : decode cX11_feed 61 = .ok (.getfield 71, 3) := by decide +kernel
theorem dX11_feed_64 : decode cX11_feed 64 = .ok (.ireturn, 1) := by decide +kernel
theorem dX11_law_0 : decode cX11_law 0 = .ok (.aload_n 0, 1) := by decide +kernel
theorem dX11_law_1 : decode cX11_law 1 = .ok (.getfield 12, 3) := by decide +kernel
theorem dX11_law_4 : decode cX11_law 4 = .ok (.iload_n 1, 1) := by decide +kernel
theorem dX11_law_5 : decode cX11_law 5 = .ok (.iconst 1, 1) := by decide +kernel
theorem dX11_law_6 : decode cX11_law 6 = .ok (.sipush 240, 3) := by decide +kernel
theorem dX11_law_9 : decode cX11_law 9 = .ok (.invokevirtual 79, 3) := by decide +kernel
theorem dX11_law_12 : decode cX11_law 12 = .ok (.ifCond .ne 5, 3) := by decide +kernel
theorem dX11_law_15 : decode cX11_law 15 = .ok (.iconst (-1), 1) := by decide +kernel
theorem dX11_law_16 : decode cX11_law 16 = .ok (.ireturn, 1) := by decide +kernel
theorem dX11_law_17 : decode cX11_law 17 = .ok (.aload_n 0, 1) := by decide +kernel
theorem dX11_law_18 : decode cX11_law 18 = .ok (.getfield 12, 3) := by decide +kernel
theorem dX11_law_21 : decode cX11_law 21 = .ok (.iload_n 1, 1) := by decide +kernel
theorem dX11_law_22 : decode cX11_law 22 = .ok (.invokevirtual 83, 3) := by decide +kernel
theorem dX11_law_25 : decode cX11_law 25 = .ok (.aload_n 0, 1) := by decide +kernel
theorem dX11_law_26 : decode cX11_law 26 = .ok (.getfield 40, 3) := by decide +kernel
theorem dX11_law_29 : decode cX11_law 29 = .ok (.invokevirtual 86, 3) := by decide +kernel
theorem dX11_law_32 : decode cX11_law 32 = .ok (.new 89, 3) := by decide +kernel
theorem dX11_law_35 : decode cX11_law 35 = .ok (.dup, 1) := by decide +kernel
theorem dX11_law_36 : decode cX11_law 36 = .ok (.aload_n 0, 1) := by decide +kernel
theorem dX11_law_37 : decode cX11_law 37 = .ok (.getfield 12, 3) := by decide +kernel
theorem dX11_law_40 : decode cX11_law 40 = .ok (.aload_n 0, 1) := by decide +kernel
theorem dX11_law_41 : decode cX11_law 41 = .ok (.getfield 40, 3) := by decide +kernel
theorem dX11_law_44 : decode cX11_law 44 = .ok (.invokespecial 91, 3) := by decide +kernel
theorem dX11_law_47 : decode cX11_law 47 = .ok (.bipush 16, 2) := by decide +kernel
theorem dX11_law_49 : decode cX11_law 49 = .ok (.invokevirtual 94, 3) := by decide +kernel
theorem dX11_law_52 : decode cX11_law 52 = .ok (.istore_n 2, 1) := by decide +kernel
theorem dX11_law_53 : decode cX11_law 53 = .ok (.iload_n 2, 1) := by decide +kernel
theorem dX11_law_54 : decode cX11_law 54 = .ok (.ifCond .le 21, 3) := by decide +kernel
theorem dX11_law_57 : decode cX11_law 57 = .ok (.aload_n 0, 1) := by decide +kernel
theorem dX11_law_58 : decode cX11_law 58 = .ok (.getfield 36, 3) := by decide +kernel
theorem dX11_law_61 : decode cX11_law 61 = .ok (.astore_n 3, 1) := by decide +kernel
theorem dX11_law_62 : decode cX11_law 62 = .ok (.aload_n 0, 1) := by decide +kernel
theorem dX11_law_63 : decode cX11_law 63 = .ok (.aload_n 0, 1) := by decide +kernel
theorem dX11_law_64 : decode cX11_law 64 = .ok (.getfield 40, 3) := by decide +kernel
theorem dX11_law_67 : decode cX11_law 67 = .ok (.putfield 36, 3) := by decide +kernel
theorem dX11_law_70 : decode cX11_law 70 = .ok (.aload_n 0, 1) := by decide +kernel
theorem dX11_law_71 : decode cX11_law 71 = .ok (.aload_n 3, 1) := by decide +kernel
theorem dX11_law_72 : decode cX11_law 72 = .ok (.putfield 40, 3) := by decide +kernel
theorem dX11_law_75 : decode cX11_law 75 = .ok (.iload_n 2, 1) := by decide +kernel
theorem dX11_law_76 : decode cX11_law 76 = .ok (.ireturn, 1) := by decide +kernel
theorem dX11_dreads_0 : decode cX11_dreads 0 = .ok (.iload_n 1, 1) := by decide +kernel
theorem dX11_dreads_1 : decode cX11_dreads 1 = .ok (.ifCond .lt 23, 3) := by decide +kernel
theorem dX11_dreads_4 : decode cX11_dreads 4 = .ok (.iload_n 1, 1) := by decide +kernel
theorem dX11_dreads_5 : decode cX11_dreads 5 = .ok (.bipush 12, 2) := by decide +kernel
theorem dX11_dreads_7 : decode cX11_dreads 7 = .ok (.if_icmp .ge 17, 3) := by decide +kernel
theorem dX11_dreads_10 : decode cX11_dreads 10 = .ok (.aload_n 0, 1) := by decide +kernel
theorem dX11_dreads_11 : decode cX11_dreads 11 = .ok (.getfield 12, 3) := by decide +kernel
theorem dX11_dreads_14 : decode cX11_dreads 14 = .ok (.iload_n 2, 1) := by decide +kernel
theorem dX11_dreads_15 : decode cX11_dreads 15 = .ok (.iconst 1, 1) := by decide +kernel
theorem dX11_dreads_16 : decode cX11_dreads 16 = .ok (.bipush 120, 2) := by decide +kernel
theorem dX11_dreads_18 : decode cX11_dreads 18 = .ok (.invokevirtual 79, 3) := by decide +kernel
theorem dX11_dreads_21 : decode cX11_dreads 21 = .ok (.ifCond .ne 5, 3) := by decide +kernel
theorem dX11_dreads_24 : decode cX11_dreads 24 = .ok (.iconst (-1), 1) := by decide +kernel
theorem dX11_dreads_25 : decode cX11_dreads 25 = .ok (.ireturn, 1) := by decide +kernel
theorem dX11_dreads_26 : decode cX11_dreads 26 = .ok (.aload_n 0, 1) := by decide +kernel
theorem dX11_dreads_27 : decode cX11_dreads 27 = .ok (.getfield 12, 3) := by decide +kernel
theorem dX11_dreads_30 : decode cX11_dreads 30 = .ok (.iload_n 2, 1) := by decide +kernel
theorem dX11_dreads_31 : decode cX11_dreads 31 = .ok (.invokevirtual 83, 3) := by decide +kernel
theorem dX11_dreads_34 : decode cX11_dreads 34 = .ok (.aload_n 0, 1) := by decide +kernel
theorem dX11_dreads_35 : decode cX11_dreads 35 = .ok (.getfield 23, 3) := by decide +kernel
theorem dX11_dreads_38 : decode cX11_dreads 38 = .ok (.aload_n 0, 1) := by decide +kernel
theorem dX11_dreads_39 : decode cX11_dreads 39 = .ok (.getfield 19, 3) := by decide +kernel
theorem dX11_dreads_42 : decode cX11_dreads 42 = .ok (.invokevirtual 98, 3) := by decide +kernel
theorem dX11_dreads_45 : decode cX11_dreads 45 = .ok (.new 102, 3) := by decide +kernel
theorem dX11_dreads_48 : decode cX11_dreads 48 = .ok (.dup, 1) := by decide +kernel
theorem dX11_dreads_49 : decode cX11_dreads 49 = .ok (.aload_n 0, 1) := by decide +kernel
theorem dX11_dreads_50 : decode cX11_dreads 50 = .ok (.getfield 12, 3) := by decide +kernel
theorem dX11_dreads_53 : decode cX11_dreads 53 = .ok (.aload_n 0, 1) := by decide +kernel
theorem dX11_dreads_54 : decode cX11_dreads 54 = .ok (.getfield 23, 3) := by decide +kernel
theorem dX11_dreads_57 : decode cX11_dreads 57 = .ok (.iload_n 1, 1) := by decide +kernel
theorem dX11_dreads_58 : decode cX11_dreads 58 = .ok (.invokespecial 104, 3) := by decide +kernel
theorem dX11_dreads_61 : decode cX11_dreads 61 = .ok (.bipush 20, 2) := by decide +kernel
theorem dX11_dreads_63 : decode cX11_dreads 63 = .ok (.invokevirtual 107, 3) := by decide +kernel
theorem dX11_dreads_66 : decode cX11_dreads 66 = .ok (.istore_n 3, 1) := by decide +kernel
theorem dX11_dreads_67 : decode cX11_dreads 67 = .ok (.iload_n 3, 1) := by decide +kernel
theorem dX11_dreads_68 : decode cX11_dreads 68 = .ok (.ifCond .le 14, 3) := by decide +kernel
theorem dX11_dreads_71 : decode cX11_dreads 71 = .ok (.aload_n 0, 1) := by decide +kernel
theorem dX11_dreads_72 : decode cX11_dreads 72 = .ok (.getfield 19, 3) := by decide +kernel
theorem dX11_dreads_75 : decode cX11_dreads 75 = .ok (.aload_n 0, 1) := by decide +kernel
theorem dX11_dreads_76 : decode cX11_dreads 76 = .ok (.getfield 23, 3) := by decide +kernel
theorem dX11_dreads_79 : decode cX11_dreads 79 = .ok (.invokevirtual 98, 3) := by decide +kernel
theorem dX11_dreads_82 : decode cX11_dreads 82 = .ok (.iload_n 3, 1) := by decide +kernel
theorem dX11_dreads_83 : decode cX11_dreads 83 = .ok (.ireturn, 1) := by decide +kernel
theorem dX11_orders_0 : decode cX11_orders 0 = .ok (.aload_n 0, 1) := by decide +kernel
theorem dX11_orders_1 : decode cX11_orders 1 = .ok (.getfield 12, 3) := by decide +kernel
theorem dX11_orders_4 : decode cX11_orders 4 = .ok (.iload_n 1, 1) := by decide +kernel
theorem dX11_orders_5 : decode cX11_orders 5 = .ok (.iconst 1, 1) := by decide +kernel
theorem dX11_orders_6 : decode cX11_orders 6 = .ok (.bipush 120, 2) := by decide +kernel
theorem dX11_orders_8 : decode cX11_orders 8 = .ok (.invokevirtual 79, 3) := by decide +kernel
theorem dX11_orders_11 : decode cX11_orders 11 = .ok (.ifCond .ne 5, 3) := by decide +kernel
theorem dX11_orders_14 : decode cX11_orders 14 = .ok (.iconst (-1), 1) := by decide +kernel
theorem dX11_orders_15 : decode cX11_orders 15 = .ok (.ireturn, 1) := by decide +kernel
theorem dX11_orders_16 : decode cX11_orders 16 = .ok (.aload_n 0, 1) := by decide +kernel
theorem dX11_orders_17 : decode cX11_orders 17 = .ok (.getfield 12, 3) := by decide +kernel
theorem dX11_orders_20 : decode cX11_orders 20 = .ok (.iload_n 1, 1) := by decide +kernel
theorem dX11_orders_21 : decode cX11_orders 21 = .ok (.invokevirtual 83, 3) := by decide +kernel
theorem dX11_orders_24 : decode cX11_orders 24 = .ok (.aload_n 0, 1) := by decide +kernel
theorem dX11_orders_25 : decode cX11_orders 25 = .ok (.getfield 23, 3) := by decide +kernel
theorem dX11_orders_28 : decode cX11_orders 28 = .ok (.aload_n 0, 1) := by decide +kernel
theorem dX11_orders_29 : decode cX11_orders 29 = .ok (.getfield 19, 3) := by decide +kernel
theorem dX11_orders_32 : decode cX11_orders 32 = .ok (.invokevirtual 98, 3) := by decide +kernel
theorem dX11_orders_35 : decode cX11_orders 35 = .ok (.new 108, 3) := by decide +kernel
theorem dX11_orders_38 : decode cX11_orders 38 = .ok (.dup, 1) := by decide +kernel
theorem dX11_orders_39 : decode cX11_orders 39 = .ok (.aload_n 0, 1) := by decide +kernel
theorem dX11_orders_40 : decode cX11_orders 40 = .ok (.getfield 12, 3) := by decide +kernel
theorem dX11_orders_43 : decode cX11_orders 43 = .ok (.aload_n 0, 1) := by decide +kernel
theorem dX11_orders_44 : decode cX11_orders 44 = .ok (.getfield 23, 3) := by decide +kernel
theorem dX11_orders_47 : decode cX11_orders 47 = .ok (.invokespecial 110, 3) := by decide +kernel
theorem dX11_orders_50 : decode cX11_orders 50 = .ok (.bipush 16, 2) := by decide +kernel
theorem dX11_orders_52 : decode cX11_orders 52 = .ok (.invokevirtual 113, 3) := by decide +kernel
theorem dX11_orders_55 : decode cX11_orders 55 = .ok (.istore_n 2, 1) := by decide +kernel
theorem dX11_orders_56 : decode cX11_orders 56 = .ok (.iload_n 2, 1) := by decide +kernel
theorem dX11_orders_57 : decode cX11_orders 57 = .ok (.ifCond .le 14, 3) := by decide +kernel
theorem dX11_orders_60 : decode cX11_orders 60 = .ok (.aload_n 0, 1) := by decide +kernel
theorem dX11_orders_61 : decode cX11_orders 61 = .ok (.getfield 19, 3) := by decide +kernel
theorem dX11_orders_64 : decode cX11_orders 64 = .ok (.aload_n 0, 1) := by decide +kernel
theorem dX11_orders_65 : decode cX11_orders 65 = .ok (.getfield 23, 3) := by decide +kernel
theorem dX11_orders_68 : decode cX11_orders 68 = .ok (.invokevirtual 98, 3) := by decide +kernel
theorem dX11_orders_71 : decode cX11_orders 71 = .ok (.iload_n 2, 1) := by decide +kernel
theorem dX11_orders_72 : decode cX11_orders 72 = .ok (.ireturn, 1) := by decide +kernel
theorem dX11_nights_0 : decode cX11_nights 0 = .ok (.iload_n 1, 1) := by decide +kernel
theorem dX11_nights_1 : decode cX11_nights 1 = .ok (.iconst 1, 1) := by decide +kernel
theorem dX11_nights_2 : decode cX11_nights 2 = .ok (.if_icmp .lt 9, 3) := by decide +kernel
theorem dX11_nights_5 : decode cX11_nights 5 = .ok (.iload_n 1, 1) := by decide +kernel
theorem dX11_nights_6 : decode cX11_nights 6 = .ok (.bipush 100, 2) := by decide +kernel
theorem dX11_nights_8 : decode cX11_nights 8 = .ok (.if_icmp .le 5, 3) := by decide +kernel
theorem dX11_nights_11 : decode cX11_nights 11 = .ok (.iconst (-1), 1) := by decide +kernel
theorem dX11_nights_12 : decode cX11_nights 12 = .ok (.ireturn, 1) := by decide +kernel
theorem dX11_nights_13 : decode cX11_nights 13 = .ok (.aload_n 0, 1) := by decide +kernel
theorem dX11_nights_14 : decode cX11_nights 14 = .ok (.getfield 46, 3) := by decide +kernel
theorem dX11_nights_17 : decode cX11_nights 17 = .ok (.aload_n 0, 1) := by decide +kernel
theorem dX11_nights_18 : decode cX11_nights 18 = .ok (.getfield 19, 3) := by decide +kernel
theorem dX11_nights_21 : decode cX11_nights 21 = .ok (.aload_n 0, 1) := by decide +kernel
theorem dX11_nights_22 : decode cX11_nights 22 = .ok (.getfield 36, 3) := by decide +kernel
theorem dX11_nights_25 : decode cX11_nights 25 = .ok (.iload_n 1, 1) := by decide +kernel
theorem dX11_nights_26 : decode cX11_nights 26 = .ok (.invokevirtual 114, 3) := by decide +kernel
theorem dX11_nights_29 : decode cX11_nights 29 = .ok (.aload_n 0, 1) := by decide +kernel
theorem dX11_nights_30 : decode cX11_nights 30 = .ok (.getfield 46, 3) := by decide +kernel
theorem dX11_nights_33 : decode cX11_nights 33 = .ok (.getfield 118, 3) := by decide +kernel
theorem dX11_nights_36 : decode cX11_nights 36 = .ok (.ireturn, 1) := by decide +kernel
theorem dX11_tried_0 : decode cX11_tried 0 = .ok (.iload_n 1, 1) := by decide +kernel
theorem dX11_tried_1 : decode cX11_tried 1 = .ok (.iconst 1, 1) := by decide +kernel
theorem dX11_tried_2 : decode cX11_tried 2 = .ok (.if_icmp .lt 17, 3) := by decide +kernel
theorem dX11_tried_5 : decode cX11_tried 5 = .ok (.iload_n 1, 1) := by decide +kernel
theorem dX11_tried_6 : decode cX11_tried 6 = .ok (.bipush 100, 2) := by decide +kernel
theorem dX11_tried_8 : decode cX11_tried 8 = .ok (.if_icmp .gt 11, 3) := by decide +kernel
theorem dX11_tried_11 : decode cX11_tried 11 = .ok (.aload_n 0, 1) := by decide +kernel
theorem dX11_tried_12 : decode cX11_tried 12 = .ok (.iload_n 2, 1) := by decide +kernel
theorem dX11_tried_13 : decode cX11_tried 13 = .ok (.invokevirtual 121, 3) := by decide +kernel
theorem dX11_tried_16 : decode cX11_tried 16 = .ok (.ifCond .ne 5, 3) := by decide +kernel
theorem dX11_tried_19 : decode cX11_tried 19 = .ok (.iconst (-1), 1) := by decide +kernel
theorem dX11_tried_20 : decode cX11_tried 20 = .ok (.ireturn, 1) := by decide +kernel
theorem dX11_tried_21 : decode cX11_tried 21 = .ok (.aload_n 0, 1) := by decide +kernel
theorem dX11_tried_22 : decode cX11_tried 22 = .ok (.getfield 23, 3) := by decide +kernel
theorem dX11_tried_25 : decode cX11_tried 25 = .ok (.aload_n 0, 1) := by decide +kernel
theorem dX11_tried_26 : decode cX11_tried 26 = .ok (.getfield 19, 3) := by decide +kernel
theorem dX11_tried_29 : decode cX11_tried 29 = .ok (.invokevirtual 98, 3) := by decide +kernel
theorem dX11_tried_32 : decode cX11_tried 32 = .ok (.aload_n 0, 1) := by decide +kernel
theorem dX11_tried_33 : decode cX11_tried 33 = .ok (.getfield 46, 3) := by decide +kernel
theorem dX11_tried_36 : decode cX11_tried 36 = .ok (.aload_n 0, 1) := by decide +kernel
theorem dX11_tried_37 : decode cX11_tried 37 = .ok (.getfield 23, 3) := by decide +kernel
theorem dX11_tried_40 : decode cX11_tried 40 = .ok (.aload_n 0, 1) := by decide +kernel
theorem dX11_tried_41 : decode cX11_tried 41 = .ok (.getfield 36, 3) := by decide +kernel
theorem dX11_tried_44 : decode cX11_tried 44 = .ok (.iload_n 1, 1) := by decide +kernel
theorem dX11_tried_45 : decode cX11_tried 45 = .ok (.invokevirtual 114, 3) := by decide +kernel
theorem dX11_tried_48 : decode cX11_tried 48 = .ok (.iload_n 2, 1) := by decide +kernel
theorem dX11_tried_49 : decode cX11_tried 49 = .ok (.ifCond .ne 11, 3) := by decide +kernel
theorem dX11_tried_52 : decode cX11_tried 52 = .ok (.aload_n 0, 1) := by decide +kernel
theorem dX11_tried_53 : decode cX11_tried 53 = .ok (.getfield 46, 3) := by decide +kernel
theorem dX11_tried_56 : decode cX11_tried 56 = .ok (.getfield 118, 3) := by decide +kernel
theorem dX11_tried_59 : decode cX11_tried 59 = .ok (.ireturn, 1) := by decide +kernel
theorem dX11_tried_60 : decode cX11_tried 60 = .ok (.iload_n 2, 1) := by decide +kernel
theorem dX11_tried_61 : decode cX11_tried 61 = .ok (.iconst 1, 1) := by decide +kernel
theorem dX11_tried_62 : decode cX11_tried 62 = .ok (.if_icmp .ne 11, 3) := by decide +kernel
theorem dX11_tried_65 : decode cX11_tried 65 = .ok (.aload_n 0, 1) := by decide +kernel
theorem dX11_tried_66 : decode cX11_tried 66 = .ok (.getfield 46, 3) := by decide +kernel
theorem dX11_tried_69 : decode cX11_tried 69 = .ok (.getfield 125, 3) := by decide +kernel
theorem dX11_tried_72 : decode cX11_tried 72 = .ok (.ireturn, 1) := by decide +kernel
theorem dX11_tried_73 : decode cX11_tried 73 = .ok (.iload_n 2, 1) := by decide +kernel
theorem dX11_tried_74 : decode cX11_tried 74 = .ok (.bipush 30, 2) := by decide +kernel
theorem dX11_tried_76 : decode cX11_tried 76 = .ok (.if_icmp .ge 15, 3) := by decide +kernel
theorem dX11_tried_79 : decode cX11_tried 79 = .ok (.aload_n 0, 1) := by decide +kernel
theorem dX11_tried_80 : decode cX11_tried 80 = .ok (.getfield 23, 3) := by decide +kernel
theorem dX11_tried_83 : decode cX11_tried 83 = .ok (.iload_n 2, 1) := by decide +kernel
theorem dX11_tried_84 : decode cX11_tried 84 = .ok (.bipush 10, 2) := by decide +kernel
theorem dX11_tried_86 : decode cX11_tried 86 = .ok (.isub, 1) := by decide +kernel
theorem dX11_tried_87 : decode cX11_tried 87 = .ok (.invokevirtual 128, 3) := by decide +kernel
theorem dX11_tried_90 : decode cX11_tried 90 = .ok (.ireturn, 1) := by decide +kernel
theorem dX11_tried_91 : decode cX11_tried 91 = .ok (.iload_n 2, 1) := by decide +kernel
theorem dX11_tried_92 : decode cX11_tried 92 = .ok (.bipush 50, 2) := by decide +kernel
theorem dX11_tried_94 : decode cX11_tried 94 = .ok (.if_icmp .ge 15, 3) := by decide +kernel
theorem dX11_tried_97 : decode cX11_tried 97 = .ok (.aload_n 0, 1) := by decide +kernel
theorem dX11_tried_98 : decode cX11_tried 98 = .ok (.getfield 23, 3) := by decide +kernel
theorem dX11_tried_101 : decode cX11_tried 101 = .ok (.iload_n 2, 1) := by decide +kernel
theorem dX11_tried_102 : decode cX11_tried 102 = .ok (.bipush 30, 2) := by decide +kernel
theorem dX11_tried_104 : decode cX11_tried 104 = .ok (.isub, 1) := by decide +kernel
theorem dX11_tried_105 : decode cX11_tried 105 = .ok (.invokevirtual 131, 3) := by decide +kernel
theorem dX11_tried_108 : decode cX11_tried 108 = .ok (.ireturn, 1) := by decide +kernel
theorem dX11_tried_109 : decode cX11_tried 109 = .ok (.aload_n 0, 1) := by decide +kernel
theorem dX11_tried_110 : decode cX11_tried 110 = .ok (.getfield 23, 3) := by decide +kernel
theorem dX11_tried_113 : decode cX11_tried 113 = .ok (.iload_n 2, 1) := by decide +kernel
theorem dX11_tried_114 : decode cX11_tried 114 = .ok (.bipush 50, 2) := by decide +kernel
theorem dX11_tried_116 : decode cX11_tried 116 = .ok (.isub, 1) := by decide +kernel
theorem dX11_tried_117 : decode cX11_tried 117 = .ok (.invokevirtual 134, 3) := by decide +kernel
theorem dX11_tried_120 : decode cX11_tried 120 = .ok (.ireturn, 1) := by decide +kernel
theorem dX11_canBeTried_0 : decode cX11_canBeTried 0 = .ok (.iload_n 1, 1) := by decide +kernel
theorem dX11_canBeTried_1 : decode cX11_canBeTried 1 = .ok (.ifCond .lt 9, 3) := by decide +kernel
theorem dX11_canBeTried_4 : decode cX11_canBeTried 4 = .ok (.iload_n 1, 1) := by decide +kernel
theorem dX11_canBeTried_5 : decode cX11_canBeTried 5 = .ok (.bipush 66, 2) := by decide +kernel
theorem dX11_canBeTried_7 : decode cX11_canBeTried 7 = .ok (.if_icmp .le 5, 3) := by decide +kernel
theorem dX11_canBeTried_10 : decode cX11_canBeTried 10 = .ok (.iconst 0, 1) := by decide +kernel
theorem dX11_canBeTried_11 : decode cX11_canBeTried 11 = .ok (.ireturn, 1) := by decide +kernel
theorem dX11_canBeTried_12 : decode cX11_canBeTried 12 = .ok (.iload_n 1, 1) := by decide +kernel
theorem dX11_canBeTried_13 : decode cX11_canBeTried 13 = .ok (.bipush 10, 2) := by decide +kernel
theorem dX11_canBeTried_15 : decode cX11_canBeTried 15 = .ok (.if_icmp .ge 14, 3) := by decide +kernel
theorem dX11_canBeTried_18 : decode cX11_canBeTried 18 = .ok (.iload_n 1, 1) := by decide +kernel
theorem dX11_canBeTried_19 : decode cX11_canBeTried 19 = .ok (.iconst 1, 1) := by decide +kernel
theorem dX11_canBeTried_20 : decode cX11_canBeTried 20 = .ok (.if_icmp .gt 7, 3) := by decide +kernel
theorem dX11_canBeTried_23 : decode cX11_canBeTried 23 = .ok (.iconst 1, 1) := by decide +kernel
theorem dX11_canBeTried_24 : decode cX11_canBeTried 24 = .ok (.goto 4, 3) := by decide +kernel
theorem dX11_canBeTried_27 : decode cX11_canBeTried 27 = .ok (.iconst 0, 1) := by decide +kernel
theorem dX11_canBeTried_28 : decode cX11_canBeTried 28 = .ok (.ireturn, 1) := by decide +kernel
theorem dX11_canBeTried_29 : decode cX11_canBeTried 29 = .ok (.iload_n 1, 1) := by decide +kernel
theorem dX11_canBeTried_30 : decode cX11_canBeTried 30 = .ok (.bipush 50, 2) := by decide +kernel
theorem dX11_canBeTried_32 : decode cX11_canBeTried 32 = .ok (.if_icmp .ge 28, 3) := by decide +kernel
theorem dX11_canBeTried_35 : decode cX11_canBeTried 35 = .ok (.aload_n 0, 1) := by decide +kernel
theorem dX11_canBeTried_36 : decode cX11_canBeTried 36 = .ok (.getfield 19, 3) := by decide +kernel
theorem dX11_canBeTried_39 : decode cX11_canBeTried 39 = .ok (.iload_n 1, 1) := by decide +kernel
theorem dX11_canBeTried_40 : decode cX11_canBeTried 40 = .ok (.bipush 30, 2) := by decide +kernel
theorem dX11_canBeTried_42 : decode cX11_canBeTried 42 = .ok (.if_icmp .ge 10, 3) := by decide +kernel
theorem dX11_canBeTried_45 : decode cX11_canBeTried 45 = .ok (.iload_n 1, 1) := by decide +kernel
theorem dX11_canBeTried_46 : decode cX11_canBeTried 46 = .ok (.bipush 10, 2) := by decide +kernel
theorem dX11_canBeTried_48 : decode cX11_canBeTried 48 = .ok (.isub, 1) := by decide +kernel
theorem dX11_canBeTried_49 : decode cX11_canBeTried 49 = .ok (.goto 7, 3) := by decide +kernel
theorem dX11_canBeTried_52 : decode cX11_canBeTried 52 = .ok (.iload_n 1, 1) := by decide +kernel
theorem dX11_canBeTried_53 : decode cX11_canBeTried 53 = .ok (.bipush 30, 2) := by decide +kernel
theorem dX11_canBeTried_55 : decode cX11_canBeTried 55 = .ok (.isub, 1) := by decide +kernel
theorem dX11_canBeTried_56 : decode cX11_canBeTried 56 = .ok (.invokevirtual 137, 3) := by decide +kernel
theorem dX11_canBeTried_59 : decode cX11_canBeTried 59 = .ok (.ireturn, 1) := by decide +kernel
theorem dX11_canBeTried_60 : decode cX11_canBeTried 60 = .ok (.aload_n 0, 1) := by decide +kernel
theorem dX11_canBeTried_61 : decode cX11_canBeTried 61 = .ok (.getfield 19, 3) := by decide +kernel
theorem dX11_canBeTried_64 : decode cX11_canBeTried 64 = .ok (.iload_n 1, 1) := by decide +kernel
theorem dX11_canBeTried_65 : decode cX11_canBeTried 65 = .ok (.bipush 50, 2) := by decide +kernel
theorem dX11_canBeTried_67 : decode cX11_canBeTried 67 = .ok (.isub, 1) := by decide +kernel
theorem dX11_canBeTried_68 : decode cX11_canBeTried 68 = .ok (.invokevirtual 140, 3) := by decide +kernel
theorem dX11_canBeTried_71 : decode cX11_canBeTried 71 = .ok (.ireturn, 1) := by decide +kernel
theorem dX11_personIs_0 : decode cX11_personIs 0 = .ok (.aload_n 0, 1) := by decide +kernel
theorem dX11_personIs_1 : decode cX11_personIs 1 = .ok (.getfield 19, 3) := by decide +kernel
theorem dX11_personIs_4 : decode cX11_personIs 4 = .ok (.iload_n 1, 1) := by decide +kernel
theorem dX11_personIs_5 : decode cX11_personIs 5 = .ok (.invokevirtual 137, 3) := by decide +kernel
theorem dX11_personIs_8 : decode cX11_personIs 8 = .ok (.ifCond .ne 5, 3) := by decide +kernel
theorem dX11_personIs_11 : decode cX11_personIs 11 = .ok (.iconst (-1), 1) := by decide +kernel
theorem dX11_personIs_12 : decode cX11_personIs 12 = .ok (.ireturn, 1) := by decide +kernel
theorem dX11_personIs_13 : decode cX11_personIs 13 = .ok (.iload_n 2, 1) := by decide +kernel
theorem dX11_personIs_14 : decode cX11_personIs 14 = .ok (.ifCond .lt 19, 3) := by decide +kernel
theorem dX11_personIs_17 : decode cX11_personIs 17 = .ok (.iload_n 2, 1) := by decide +kernel
theorem dX11_personIs_18 : decode cX11_personIs 18 = .ok (.bipush 16, 2) := by decide +kernel
theorem dX11_personIs_20 : decode cX11_personIs 20 = .ok (.if_icmp .ge 13, 3) := by decide +kernel
theorem dX11_personIs_23 : decode cX11_personIs 23 = .ok (.aload_n 0, 1) := by decide +kernel
theorem dX11_personIs_24 : decode cX11_personIs 24 = .ok (.getfield 19, 3) := by decide +kernel
theorem dX11_personIs_27 : decode cX11_personIs 27 = .ok (.iload_n 1, 1) := by decide +kernel
theorem dX11_personIs_28 : decode cX11_personIs 28 = .ok (.iload_n 2, 1) := by decide +kernel
theorem dX11_personIs_29 : decode cX11_personIs 29 = .ok (.invokevirtual 143, 3) := by decide +kernel
theorem dX11_personIs_32 : decode cX11_personIs 32 = .ok (.ireturn, 1) := by decide +kernel
theorem dX11_personIs_33 : decode cX11_personIs 33 = .ok (.iload_n 2, 1) := by decide +kernel
theorem dX11_personIs_34 : decode cX11_personIs 34 = .ok (.tableswitch 79 100 104 #[34, 43, 52, 61, 70], 34) := by decide +kernel
theorem dX11_personIs_68 : decode cX11_personIs 68 = .ok (.aload_n 0, 1) := by decide +kernel
theorem dX11_personIs_69 : decode cX11_personIs 69 = .ok (.getfield 19, 3) := by decide +kernel
theorem dX11_personIs_72 : decode cX11_personIs 72 = .ok (.iload_n 1, 1) := by decide +kernel
theorem dX11_personIs_73 : decode cX11_personIs 73 = .ok (.invokevirtual 128, 3) := by decide +kernel
theorem dX11_personIs_76 : decode cX11_personIs 76 = .ok (.ireturn, 1) := by decide +kernel
theorem dX11_personIs_77 : decode cX11_personIs 77 = .ok (.aload_n 0, 1) := by decide +kernel
theorem dX11_personIs_78 : decode cX11_personIs 78 = .ok (.getfield 19, 3) := by decide +kernel
theorem dX11_personIs_81 : decode cX11_personIs 81 = .ok (.iload_n 1, 1) := by decide +kernel
theorem dX11_personIs_82 : decode cX11_personIs 82 = .ok (.invokevirtual 131, 3) := by decide +kernel
theorem dX11_personIs_85 : decode cX11_personIs 85 = .ok (.ireturn, 1) := by decide +kernel
theorem dX11_personIs_86 : decode cX11_personIs 86 = .ok (.aload_n 0, 1) := by decide +kernel
theorem dX11_personIs_87 : decode cX11_personIs 87 = .ok (.getfield 19, 3) := by decide +kernel
theorem dX11_personIs_90 : decode cX11_personIs 90 = .ok (.iload_n 1, 1) := by decide +kernel
theorem dX11_personIs_91 : decode cX11_personIs 91 = .ok (.invokevirtual 147, 3) := by decide +kernel
theorem dX11_personIs_94 : decode cX11_personIs 94 = .ok (.ireturn, 1) := by decide +kernel
theorem dX11_personIs_95 : decode cX11_personIs 95 = .ok (.aload_n 0, 1) := by decide +kernel
theorem dX11_personIs_96 : decode cX11_personIs 96 = .ok (.getfield 19, 3) := by decide +kernel
theorem dX11_personIs_99 : decode cX11_personIs 99 = .ok (.iload_n 1, 1) := by decide +kernel
theorem dX11_personIs_100 : decode cX11_personIs 100 = .ok (.invokevirtual 150, 3) := by decide +kernel
theorem dX11_personIs_103 : decode cX11_personIs 103 = .ok (.ireturn, 1) := by decide +kernel
theorem dX11_personIs_104 : decode cX11_personIs 104 = .ok (.aload_n 0, 1) := by decide +kernel
theorem dX11_personIs_105 : decode cX11_personIs 105 = .ok (.getfield 19, 3) := by decide +kernel
theorem dX11_personIs_108 : decode cX11_personIs 108 = .ok (.iload_n 1, 1) := by decide +kernel
theorem dX11_personIs_109 : decode cX11_personIs 109 = .ok (.invokevirtual 153, 3) := by decide +kernel
theorem dX11_personIs_112 : decode cX11_personIs 112 = .ok (.ireturn, 1) := by decide +kernel
theorem dX11_personIs_113 : decode cX11_personIs 113 = .ok (.iconst (-1), 1) := by decide +kernel
theorem dX11_personIs_114 : decode cX11_personIs 114 = .ok (.ireturn, 1) := by decide +kernel
theorem dX11_doorIs_0 : decode cX11_doorIs 0 = .ok (.aload_n 0, 1) := by decide +kernel
theorem dX11_doorIs_1 : decode cX11_doorIs 1 = .ok (.getfield 19, 3) := by decide +kernel
theorem dX11_doorIs_4 : decode cX11_doorIs 4 = .ok (.iload_n 1, 1) := by decide +kernel
theorem dX11_doorIs_5 : decode cX11_doorIs 5 = .ok (.invokevirtual 140, 3) := by decide +kernel
theorem dX11_doorIs_8 : decode cX11_doorIs 8 = .ok (.ifCond .ne 5, 3) := by decide +kernel
theorem dX11_doorIs_11 : decode cX11_doorIs 11 = .ok (.iconst (-1), 1) := by decide +kernel
theorem dX11_doorIs_12 : decode cX11_doorIs 12 = .ok (.ireturn, 1) := by decide +kernel
theorem dX11_doorIs_13 : decode cX11_doorIs 13 = .ok (.iload_n 2, 1) := by decide +kernel
theorem dX11_doorIs_14 : decode cX11_doorIs 14 = .ok (.tableswitch 69 0 3 #[30, 40, 50, 60], 30) := by decide +kernel
theorem dX11_doorIs_44 : decode cX11_doorIs 44 = .ok (.aload_n 0, 1) := by decide +kernel
theorem dX11_doorIs_45 : decode cX11_doorIs 45 = .ok (.getfield 19, 3) := by decide +kernel
theorem dX11_doorIs_48 : decode cX11_doorIs 48 = .ok (.getfield 156, 3) := by decide +kernel
theorem dX11_doorIs_51 : decode cX11_doorIs 51 = .ok (.iload_n 1, 1) := by decide +kernel
theorem dX11_doorIs_52 : decode cX11_doorIs 52 = .ok (.iaload, 1) := by decide +kernel
theorem dX11_doorIs_53 : decode cX11_doorIs 53 = .ok (.ireturn, 1) := by decide +kernel
theorem dX11_doorIs_54 : decode cX11_doorIs 54 = .ok (.aload_n 0, 1) := by decide +kernel
theorem dX11_doorIs_55 : decode cX11_doorIs 55 = .ok (.getfield 19, 3) := by decide +kernel
theorem dX11_doorIs_58 : decode cX11_doorIs 58 = .ok (.getfield 160, 3) := by decide +kernel
theorem dX11_doorIs_61 : decode cX11_doorIs 61 = .ok (.iload_n 1, 1) := by decide +kernel
theorem dX11_doorIs_62 : decode cX11_doorIs 62 = .ok (.iaload, 1) := by decide +kernel
theorem dX11_doorIs_63 : decode cX11_doorIs 63 = .ok (.ireturn, 1) := by decide +kernel
theorem dX11_doorIs_64 : decode cX11_doorIs 64 = .ok (.aload_n 0, 1) := by decide +kernel
theorem dX11_doorIs_65 : decode cX11_doorIs 65 = .ok (.getfield 19, 3) := by decide +kernel
theorem dX11_doorIs_68 : decode cX11_doorIs 68 = .ok (.getfield 163, 3) := by decide +kernel
theorem dX11_doorIs_71 : decode cX11_doorIs 71 = .ok (.iload_n 1, 1) := by decide +kernel
theorem dX11_doorIs_72 : decode cX11_doorIs 72 = .ok (.iaload, 1) := by decide +kernel
theorem dX11_doorIs_73 : decode cX11_doorIs 73 = .ok (.ireturn, 1) := by decide +kernel
theorem dX11_doorIs_74 : decode cX11_doorIs 74 = .ok (.aload_n 0, 1) := by decide +kernel
theorem dX11_doorIs_75 : decode cX11_doorIs 75 = .ok (.getfield 19, 3) := by decide +kernel
theorem dX11_doorIs_78 : decode cX11_doorIs 78 = .ok (.iload_n 1, 1) := by decide +kernel
theorem dX11_doorIs_79 : decode cX11_doorIs 79 = .ok (.invokevirtual 166, 3) := by decide +kernel
theorem dX11_doorIs_82 : decode cX11_doorIs 82 = .ok (.ireturn, 1) := by decide +kernel
theorem dX11_doorIs_83 : decode cX11_doorIs 83 = .ok (.iconst (-1), 1) := by decide +kernel
theorem dX11_doorIs_84 : decode cX11_doorIs 84 = .ok (.ireturn, 1) := by decide +kernel
theorem dX11_taught_0 : decode cX11_taught 0 = .ok (.aload_n 0, 1) := by decide +kernel
theorem dX11_taught_1 : decode cX11_taught 1 = .ok (.getfield 19, 3) := by decide +kernel
theorem dX11_taught_4 : decode cX11_taught 4 = .ok (.iload_n 1, 1) := by decide +kernel
theorem dX11_taught_5 : decode cX11_taught 5 = .ok (.invokevirtual 137, 3) := by decide +kernel
theorem dX11_taught_8 : decode cX11_taught 8 = .ok (.ifCond .eq 14, 3) := by decide +kernel
theorem dX11_taught_11 : decode cX11_taught 11 = .ok (.aload_n 0, 1) := by decide +kernel
theorem dX11_taught_12 : decode cX11_taught 12 = .ok (.getfield 19, 3) := by decide +kernel
theorem dX11_taught_15 : decode cX11_taught 15 = .ok (.iload_n 2, 1) := by decide +kernel
theorem dX11_taught_16 : decode cX11_taught 16 = .ok (.invokevirtual 140, 3) := by decide +kernel
theorem dX11_taught_19 : decode cX11_taught 19 = .ok (.ifCond .ne 5, 3) := by decide +kernel
theorem dX11_taught_22 : decode cX11_taught 22 = .ok (.iconst (-1), 1) := by decide +kernel
theorem dX11_taught_23 : decode cX11_taught 23 = .ok (.ireturn, 1) := by decide +kernel
theorem dX11_taught_24 : decode cX11_taught 24 = .ok (.aload_n 0, 1) := by decide +kernel
theorem dX11_taught_25 : decode cX11_taught 25 = .ok (.getfield 19, 3) := by decide +kernel
theorem dX11_taught_28 : decode cX11_taught 28 = .ok (.iload_n 1, 1) := by decide +kernel
theorem dX11_taught_29 : decode cX11_taught 29 = .ok (.iload_n 2, 1) := by decide +kernel
theorem dX11_taught_30 : decode cX11_taught 30 = .ok (.invokestatic 169, 3) := by decide +kernel
theorem dX11_taught_33 : decode cX11_taught 33 = .ok (.ireturn, 1) := by decide +kernel
theorem dX11_crew_0 : decode cX11_crew 0 = .ok (.iload_n 1, 1) := by decide +kernel
theorem dX11_crew_1 : decode cX11_crew 1 = .ok (.ifCond .lt 8, 3) := by decide +kernel
theorem dX11_crew_4 : decode cX11_crew 4 = .ok (.iload_n 1, 1) := by decide +kernel
theorem dX11_crew_5 : decode cX11_crew 5 = .ok (.iconst 1, 1) := by decide +kernel
theorem dX11_crew_6 : decode cX11_crew 6 = .ok (.if_icmp .le 5, 3) := by decide +kernel
theorem dX11_crew_9 : decode cX11_crew 9 = .ok (.iconst (-1), 1) := by decide +kernel
theorem dX11_crew_10 : decode cX11_crew 10 = .ok (.ireturn, 1) := by decide +kernel
theorem dX11_crew_11 : decode cX11_crew 11 = .ok (.aload_n 0, 1) := by decide +kernel
theorem dX11_crew_12 : decode cX11_crew 12 = .ok (.getfield 53, 3) := by decide +kernel
theorem dX11_crew_15 : decode cX11_crew 15 = .ok (.aload_n 0, 1) := by decide +kernel
theorem dX11_crew_16 : decode cX11_crew 16 = .ok (.getfield 19, 3) := by decide +kernel
theorem dX11_crew_19 : decode cX11_crew 19 = .ok (.invokevirtual 173, 3) := by decide +kernel
theorem dX11_crew_22 : decode cX11_crew 22 = .ok (.istore_n 2, 1) := by decide +kernel
theorem dX11_crew_23 : decode cX11_crew 23 = .ok (.iload_n 2, 1) := by decide +kernel
theorem dX11_crew_24 : decode cX11_crew 24 = .ok (.ifCond .ge 6, 3) := by decide +kernel
theorem dX11_crew_27 : decode cX11_crew 27 = .ok (.bipush (-2), 2) := by decide +kernel
theorem dX11_crew_29 : decode cX11_crew 29 = .ok (.ireturn, 1) := by decide +kernel
theorem dX11_crew_30 : decode cX11_crew 30 = .ok (.iload_n 1, 1) := by decide +kernel
theorem dX11_crew_31 : decode cX11_crew 31 = .ok (.ifCond .ne 10, 3) := by decide +kernel
theorem dX11_crew_34 : decode cX11_crew 34 = .ok (.iload_n 2, 1) := by decide +kernel
theorem dX11_crew_35 : decode cX11_crew 35 = .ok (.invokestatic 177, 3) := by decide +kernel
theorem dX11_crew_38 : decode cX11_crew 38 = .ok (.goto 4, 3) := by decide +kernel
theorem dX11_crew_41 : decode cX11_crew 41 = .ok (.iload_n 2, 1) := by decide +kernel
theorem dX11_crew_42 : decode cX11_crew 42 = .ok (.ireturn, 1) := by decide +kernel
theorem dX11_lodgings_0 : decode cX11_lodgings 0 = .ok (.aload_n 0, 1) := by decide +kernel
theorem dX11_lodgings_1 : decode cX11_lodgings 1 = .ok (.getfield 19, 3) := by decide +kernel
theorem dX11_lodgings_4 : decode cX11_lodgings 4 = .ok (.invokestatic 182, 3) := by decide +kernel
theorem dX11_lodgings_7 : decode cX11_lodgings 7 = .ok (.ireturn, 1) := by decide +kernel
theorem dX11_couples_0 : decode cX11_couples 0 = .ok (.iload_n 1, 1) := by decide +kernel
theorem dX11_couples_1 : decode cX11_couples 1 = .ok (.iconst 1, 1) := by decide +kernel
theorem dX11_couples_2 : decode cX11_couples 2 = .ok (.if_icmp .lt 9, 3) := by decide +kernel
theorem dX11_couples_5 : decode cX11_couples 5 = .ok (.iload_n 1, 1) := by decide +kernel
theorem dX11_couples_6 : decode cX11_couples 6 = .ok (.bipush 99, 2) := by decide +kernel
theorem dX11_couples_8 : decode cX11_couples 8 = .ok (.if_icmp .le 5, 3) := by decide +kernel
theorem dX11_couples_11 : decode cX11_couples 11 = .ok (.iconst (-1), 1) := by decide +kernel
theorem dX11_couples_12 : decode cX11_couples 12 = .ok (.ireturn, 1) := by decide +kernel
theorem dX11_couples_13 : decode cX11_couples 13 = .ok (.aload_n 0, 1) := by decide +kernel
theorem dX11_couples_14 : decode cX11_couples 14 = .ok (.getfield 60, 3) := by decide +kernel
theorem dX11_couples_17 : decode cX11_couples 17 = .ok (.aload_n 0, 1) := by decide +kernel
theorem dX11_couples_18 : decode cX11_couples 18 = .ok (.getfield 19, 3) := by decide +kernel
theorem dX11_couples_21 : decode cX11_couples 21 = .ok (.iload_n 1, 1) := by decide +kernel
theorem dX11_couples_22 : decode cX11_couples 22 = .ok (.invokevirtual 185, 3) := by decide +kernel
theorem dX11_couples_25 : decode cX11_couples 25 = .ok (.ireturn, 1) := by decide +kernel
theorem dX11_fashion_0 : decode cX11_fashion 0 = .ok (.iload_n 1, 1) := by decide +kernel
theorem dX11_fashion_1 : decode cX11_fashion 1 = .ok (.ifCond .lt 29, 3) := by decide +kernel
theorem dX11_fashion_4 : decode cX11_fashion 4 = .ok (.iload_n 1, 1) := by decide +kernel
theorem dX11_fashion_5 : decode cX11_fashion 5 = .ok (.bipush 16, 2) := by decide +kernel
theorem dX11_fashion_7 : decode cX11_fashion 7 = .ok (.if_icmp .ge 23, 3) := by decide +kernel
theorem dX11_fashion_10 : decode cX11_fashion 10 = .ok (.iload_n 2, 1) := by decide +kernel
theorem dX11_fashion_11 : decode cX11_fashion 11 = .ok (.iconst 1, 1) := by decide +kernel
theorem dX11_fashion_12 : decode cX11_fashion 12 = .ok (.if_icmp .lt 18, 3) := by decide +kernel
theorem dX11_fashion_15 : decode cX11_fashion 15 = .ok (.iload_n 2, 1) := by decide +kernel
theorem dX11_fashion_16 : decode cX11_fashion 16 = .ok (.bipush 12, 2) := by decide +kernel
theorem dX11_fashion_18 : decode cX11_fashion 18 = .ok (.if_icmp .ge 12, 3) := by decide +kernel
theorem dX11_fashion_21 : decode cX11_fashion 21 = .ok (.iload_n 3, 1) := by decide +kernel
theorem dX11_fashion_22 : decode cX11_fashion 22 = .ok (.ifCond .lt 8, 3) := by decide +kernel
theorem dX11_fashion_25 : decode cX11_fashion 25 = .ok (.iload_n 3, 1) := by decide +kernel
theorem dX11_fashion_26 : decode cX11_fashion 26 = .ok (.iconst 1, 1) := by decide +kernel
theorem dX11_fashion_27 : decode cX11_fashion 27 = .ok (.if_icmp .le 5, 3) := by decide +kernel
theorem dX11_fashion_30 : decode cX11_fashion 30 = .ok (.iconst (-1), 1) := by decide +kernel
theorem dX11_fashion_31 : decode cX11_fashion 31 = .ok (.ireturn, 1) := by decide +kernel
theorem dX11_fashion_32 : decode cX11_fashion 32 = .ok (.aload_n 0, 1) := by decide +kernel
theorem dX11_fashion_33 : decode cX11_fashion 33 = .ok (.getfield 19, 3) := by decide +kernel
theorem dX11_fashion_36 : decode cX11_fashion 36 = .ok (.iload_n 1, 1) := by decide +kernel
theorem dX11_fashion_37 : decode cX11_fashion 37 = .ok (.invokevirtual 189, 3) := by decide +kernel
theorem dX11_fashion_40 : decode cX11_fashion 40 = .ok (.istore 4, 2) := by decide +kernel
theorem dX11_fashion_42 : decode cX11_fashion 42 = .ok (.iconst 0, 1) := by decide +kernel
theorem dX11_fashion_43 : decode cX11_fashion 43 = .ok (.istore 5, 2) := by decide +kernel
theorem dX11_fashion_45 : decode cX11_fashion 45 = .ok (.aload_n 0, 1) := by decide +kernel
theorem dX11_fashion_46 : decode cX11_fashion 46 = .ok (.getfield 19, 3) := by decide +kernel
theorem dX11_fashion_49 : decode cX11_fashion 49 = .ok (.iload 4, 2) := by decide +kernel
theorem dX11_fashion_51 : decode cX11_fashion 51 = .ok (.iload_n 2, 1) := by decide +kernel
theorem dX11_fashion_52 : decode cX11_fashion 52 = .ok (.invokestatic 192, 3) := by decide +kernel
theorem dX11_fashion_55 : decode cX11_fashion 55 = .ok (.istore 6, 2) := by decide +kernel
theorem dX11_fashion_57 : decode cX11_fashion 57 = .ok (.iload 6, 2) := by decide +kernel
theorem dX11_fashion_59 : decode cX11_fashion 59 = .ok (.iload 4, 2) := by decide +kernel
theorem dX11_fashion_61 : decode cX11_fashion 61 = .ok (.if_icmp .eq 32, 3) := by decide +kernel
theorem dX11_fashion_64 : decode cX11_fashion 64 = .ok (.iload 5, 2) := by decide +kernel
theorem dX11_fashion_66 : decode cX11_fashion 66 = .ok (.bipush 12, 2) := by decide +kernel
theorem dX11_fashion_68 : decode cX11_fashion 68 = .ok (.if_icmp .ge 25, 3) := by decide +kernel
theorem dX11_fashion_71 : decode cX11_fashion 71 = .ok (.iinc 5 1, 3) := by decide +kernel
theorem dX11_fashion_74 : decode cX11_fashion 74 = .ok (.iload 6, 2) := by decide +kernel
theorem dX11_fashion_76 : decode cX11_fashion 76 = .ok (.istore 4, 2) := by decide +kernel
theorem dX11_fashion_78 : decode cX11_fashion 78 = .ok (.aload_n 0, 1) := by decide +kernel
theorem dX11_fashion_79 : decode cX11_fashion 79 = .ok (.getfield 19, 3) := by decide +kernel
theorem dX11_fashion_82 : decode cX11_fashion 82 = .ok (.iload 4, 2) := by decide +kernel
theorem dX11_fashion_84 : decode cX11_fashion 84 = .ok (.iload_n 2, 1) := by decide +kernel
theorem dX11_fashion_85 : decode cX11_fashion 85 = .ok (.invokestatic 192, 3) := by decide +kernel
theorem dX11_fashion_88 : decode cX11_fashion 88 = .ok (.istore 6, 2) := by decide +kernel
theorem dX11_fashion_90 : decode cX11_fashion 90 = .ok (.goto (-33), 3) := by decide +kernel
theorem dX11_fashion_93 : decode cX11_fashion 93 = .ok (.iload_n 3, 1) := by decide +kernel
theorem dX11_fashion_94 : decode cX11_fashion 94 = .ok (.ifCond .ne 8, 3) := by decide +kernel
theorem dX11_fashion_97 : decode cX11_fashion 97 = .ok (.iload 4, 2) := by decide +kernel
theorem dX11_fashion_99 : decode cX11_fashion 99 = .ok (.goto 5, 3) := by decide +kernel
theorem dX11_fashion_102 : decode cX11_fashion 102 = .ok (.iload 5, 2) := by decide +kernel
theorem dX11_fashion_104 : decode cX11_fashion 104 = .ok (.ireturn, 1) := by decide +kernel
theorem dX11_fears_0 : decode cX11_fears 0 = .ok (.iload_n 1, 1) := by decide +kernel
theorem dX11_fears_1 : decode cX11_fears 1 = .ok (.ifCond .lt 8, 3) := by decide +kernel
theorem dX11_fears_4 : decode cX11_fears 4 = .ok (.iload_n 1, 1) := by decide +kernel
theorem dX11_fears_5 : decode cX11_fears 5 = .ok (.iconst 1, 1) := by decide +kernel
theorem dX11_fears_6 : decode cX11_fears 6 = .ok (.if_icmp .le 5, 3) := by decide +kernel
theorem dX11_fears_9 : decode cX11_fears 9 = .ok (.iconst (-1), 1) := by decide +kernel
theorem dX11_fears_10 : decode cX11_fears 10 = .ok (.ireturn, 1) := by decide +kernel
theorem dX11_fears_11 : decode cX11_fears 11 = .ok (.iload_n 1, 1) := by decide +kernel
theorem dX11_fears_12 : decode cX11_fears 12 = .ok (.ifCond .ne 13, 3) := by decide +kernel
theorem dX11_fears_15 : decode cX11_fears 15 = .ok (.aload_n 0, 1) := by decide +kernel
theorem dX11_fears_16 : decode cX11_fears 16 = .ok (.getfield 19, 3) := by decide +kernel
theorem dX11_fears_19 : decode cX11_fears 19 = .ok (.invokevirtual 195, 3) := by decide +kernel
theorem dX11_fears_22 : decode cX11_fears 22 = .ok (.goto 10, 3) := by decide +kernel
theorem dX11_fears_25 : decode cX11_fears 25 = .ok (.aload_n 0, 1) := by decide +kernel
theorem dX11_fears_26 : decode cX11_fears 26 = .ok (.getfield 19, 3) := by decide +kernel
theorem dX11_fears_29 : decode cX11_fears 29 = .ok (.invokevirtual 199, 3) := by decide +kernel
theorem dX11_fears_32 : decode cX11_fears 32 = .ok (.ireturn, 1) := by decide +kernel
theorem dX11_unlike_0 : decode cX11_unlike 0 = .ok (.aload_n 0, 1) := by decide +kernel
theorem dX11_unlike_1 : decode cX11_unlike 1 = .ok (.getfield 19, 3) := by decide +kernel
theorem dX11_unlike_4 : decode cX11_unlike 4 = .ok (.iload_n 1, 1) := by decide +kernel
theorem dX11_unlike_5 : decode cX11_unlike 5 = .ok (.invokevirtual 137, 3) := by decide +kernel
theorem dX11_unlike_8 : decode cX11_unlike 8 = .ok (.ifCond .eq 14, 3) := by decide +kernel
theorem dX11_unlike_11 : decode cX11_unlike 11 = .ok (.aload_n 0, 1) := by decide +kernel
theorem dX11_unlike_12 : decode cX11_unlike 12 = .ok (.getfield 19, 3) := by decide +kernel
theorem dX11_unlike_15 : decode cX11_unlike 15 = .ok (.iload_n 2, 1) := by decide +kernel
theorem dX11_unlike_16 : decode cX11_unlike 16 = .ok (.invokevirtual 137, 3) := by decide +kernel
theorem dX11_unlike_19 : decode cX11_unlike 19 = .ok (.ifCond .ne 5, 3) := by decide +kernel
theorem dX11_unlike_22 : decode cX11_unlike 22 = .ok (.iconst (-1), 1) := by decide +kernel
theorem dX11_unlike_23 : decode cX11_unlike 23 = .ok (.ireturn, 1) := by decide +kernel
theorem dX11_unlike_24 : decode cX11_unlike 24 = .ok (.aload_n 0, 1) := by decide +kernel
theorem dX11_unlike_25 : decode cX11_unlike 25 = .ok (.getfield 19, 3) := by decide +kernel
theorem dX11_unlike_28 : decode cX11_unlike 28 = .ok (.iload_n 1, 1) := by decide +kernel
theorem dX11_unlike_29 : decode cX11_unlike 29 = .ok (.iload_n 2, 1) := by decide +kernel
theorem dX11_unlike_30 : decode cX11_unlike 30 = .ok (.invokestatic 202, 3) := by decide +kernel
theorem dX11_unlike_33 : decode cX11_unlike 33 = .ok (.ireturn, 1) := by decide +kernel
theorem dX11_mostLike_0 : decode cX11_mostLike 0 = .ok (.aload_n 0, 1) := by decide +kernel
theorem dX11_mostLike_1 : decode cX11_mostLike 1 = .ok (.getfield 19, 3) := by decide +kernel
theorem dX11_mostLike_4 : decode cX11_mostLike 4 = .ok (.iload_n 1, 1) := by decide +kernel
theorem dX11_mostLike_5 : decode cX11_mostLike 5 = .ok (.invokevirtual 137, 3) := by decide +kernel
theorem dX11_mostLike_8 : decode cX11_mostLike 8 = .ok (.ifCond .ne 5, 3) := by decide +kernel
theorem dX11_mostLike_11 : decode cX11_mostLike 11 = .ok (.iconst (-1), 1) := by decide +kernel
theorem dX11_mostLike_12 : decode cX11_mostLike 12 = .ok (.ireturn, 1) := by decide +kernel
theorem dX11_mostLike_13 : decode cX11_mostLike 13 = .ok (.aload_n 0, 1) := by decide +kernel
theorem dX11_mostLike_14 : decode cX11_mostLike 14 = .ok (.getfield 19, 3) := by decide +kernel
theorem dX11_mostLike_17 : decode cX11_mostLike 17 = .ok (.iload_n 1, 1) := by decide +kernel
theorem dX11_mostLike_18 : decode cX11_mostLike 18 = .ok (.invokestatic 205, 3) := by decide +kernel
theorem dX11_mostLike_21 : decode cX11_mostLike 21 = .ok (.ireturn, 1) := by decide +kernel
theorem dX11_circles_0 : decode cX11_circles 0 = .ok (.iload_n 1, 1) := by decide +kernel
theorem dX11_circles_1 : decode cX11_circles 1 = .ok (.ifCond .lt 27, 3) := by decide +kernel
theorem dX11_circles_4 : decode cX11_circles 4 = .ok (.iload_n 1, 1) := by decide +kernel
theorem dX11_circles_5 : decode cX11_circles 5 = .ok (.sipush 1584, 3) := by decide +kernel
theorem dX11_circles_8 : decode cX11_circles 8 = .ok (.if_icmp .gt 20, 3) := by decide +kernel
theorem dX11_circles_11 : decode cX11_circles 11 = .ok (.iload_n 2, 1) := by decide +kernel
theorem dX11_circles_12 : decode cX11_circles 12 = .ok (.bipush 100, 2) := by decide +kernel
theorem dX11_circles_14 : decode cX11_circles 14 = .ok (.if_icmp .eq 16, 3) := by decide +kernel
theorem dX11_circles_17 : decode cX11_circles 17 = .ok (.aload_n 0, 1) := by decide +kernel
theorem dX11_circles_18 : decode cX11_circles 18 = .ok (.getfield 19, 3) := by decide +kernel
theorem dX11_circles_21 : decode cX11_circles 21 = .ok (.iload_n 2, 1) := by decide +kernel
theorem dX11_circles_22 : decode cX11_circles 22 = .ok (.invokevirtual 137, 3) := by decide +kernel
theorem dX11_circles_25 : decode cX11_circles 25 = .ok (.ifCond .ne 5, 3) := by decide +kernel
theorem dX11_circles_28 : decode cX11_circles 28 = .ok (.iconst (-1), 1) := by decide +kernel
theorem dX11_circles_29 : decode cX11_circles 29 = .ok (.ireturn, 1) := by decide +kernel
theorem dX11_circles_30 : decode cX11_circles 30 = .ok (.aload_n 0, 1) := by decide +kernel
theorem dX11_circles_31 : decode cX11_circles 31 = .ok (.getfield 60, 3) := by decide +kernel
theorem dX11_circles_34 : decode cX11_circles 34 = .ok (.aload_n 0, 1) := by decide +kernel
theorem dX11_circles_35 : decode cX11_circles 35 = .ok (.getfield 19, 3) := by decide +kernel
theorem dX11_circles_38 : decode cX11_circles 38 = .ok (.iload_n 1, 1) := by decide +kernel
theorem dX11_circles_39 : decode cX11_circles 39 = .ok (.invokevirtual 208, 3) := by decide +kernel
theorem dX11_circles_42 : decode cX11_circles 42 = .ok (.iload_n 2, 1) := by decide +kernel
theorem dX11_circles_43 : decode cX11_circles 43 = .ok (.bipush 100, 2) := by decide +kernel
theorem dX11_circles_45 : decode cX11_circles 45 = .ok (.if_icmp .ne 20, 3) := by decide +kernel
theorem dX11_circles_48 : decode cX11_circles 48 = .ok (.aload_n 0, 1) := by decide +kernel
theorem dX11_circles_49 : decode cX11_circles 49 = .ok (.getfield 60, 3) := by decide +kernel
theorem dX11_circles_52 : decode cX11_circles 52 = .ok (.aload_n 0, 1) := by decide +kernel
theorem dX11_circles_53 : decode cX11_circles 53 = .ok (.getfield 19, 3) := by decide +kernel
theorem dX11_circles_56 : decode cX11_circles 56 = .ok (.getfield 212, 3) := by decide +kernel
theorem dX11_circles_59 : decode cX11_circles 59 = .ok (.invokevirtual 215, 3) := by decide +kernel
theorem dX11_circles_62 : decode cX11_circles 62 = .ok (.goto 18, 3) := by decide +kernel
theorem dX11_circles_65 : decode cX11_circles 65 = .ok (.aload_n 0, 1) := by decide +kernel
theorem dX11_circles_66 : decode cX11_circles 66 = .ok (.getfield 60, 3) := by decide +kernel
theorem dX11_circles_69 : decode cX11_circles 69 = .ok (.iload_n 2, 1) := by decide +kernel
theorem dX11_circles_70 : decode cX11_circles 70 = .ok (.aload_n 0, 1) := by decide +kernel
theorem dX11_circles_71 : decode cX11_circles 71 = .ok (.getfield 19, 3) := by decide +kernel
theorem dX11_circles_74 : decode cX11_circles 74 = .ok (.getfield 212, 3) := by decide +kernel
theorem dX11_circles_77 : decode cX11_circles 77 = .ok (.invokevirtual 218, 3) := by decide +kernel
theorem dX11_circles_80 : decode cX11_circles 80 = .ok (.ireturn, 1) := by decide +kernel
theorem dX11_keystones_0 : decode cX11_keystones 0 = .ok (.aload_n 0, 1) := by decide +kernel
theorem dX11_keystones_1 : decode cX11_keystones 1 = .ok (.getfield 19, 3) := by decide +kernel
theorem dX11_keystones_4 : decode cX11_keystones 4 = .ok (.invokestatic 221, 3) := by decide +kernel
theorem dX11_keystones_7 : decode cX11_keystones 7 = .ok (.ireturn, 1) := by decide +kernel
theorem dX11_steps_0 : decode cX11_steps 0 = .ok (.aload_n 0, 1) := by decide +kernel
theorem dX11_steps_1 : decode cX11_steps 1 = .ok (.getfield 19, 3) := by decide +kernel
theorem dX11_steps_4 : decode cX11_steps 4 = .ok (.iload_n 1, 1) := by decide +kernel
theorem dX11_steps_5 : decode cX11_steps 5 = .ok (.invokevirtual 137, 3) := by decide +kernel
theorem dX11_steps_8 : decode cX11_steps 8 = .ok (.ifCond .eq 14, 3) := by decide +kernel
theorem dX11_steps_11 : decode cX11_steps 11 = .ok (.aload_n 0, 1) := by decide +kernel
theorem dX11_steps_12 : decode cX11_steps 12 = .ok (.getfield 19, 3) := by decide +kernel
theorem dX11_steps_15 : decode cX11_steps 15 = .ok (.iload_n 2, 1) := by decide +kernel
theorem dX11_steps_16 : decode cX11_steps 16 = .ok (.invokevirtual 137, 3) := by decide +kernel
theorem dX11_steps_19 : decode cX11_steps 19 = .ok (.ifCond .ne 5, 3) := by decide +kernel
theorem dX11_steps_22 : decode cX11_steps 22 = .ok (.iconst (-1), 1) := by decide +kernel
theorem dX11_steps_23 : decode cX11_steps 23 = .ok (.ireturn, 1) := by decide +kernel
theorem dX11_steps_24 : decode cX11_steps 24 = .ok (.aload_n 0, 1) := by decide +kernel
theorem dX11_steps_25 : decode cX11_steps 25 = .ok (.getfield 19, 3) := by decide +kernel
theorem dX11_steps_28 : decode cX11_steps 28 = .ok (.iload_n 1, 1) := by decide +kernel
theorem dX11_steps_29 : decode cX11_steps 29 = .ok (.iload_n 2, 1) := by decide +kernel
theorem dX11_steps_30 : decode cX11_steps 30 = .ok (.invokestatic 224, 3) := by decide +kernel
theorem dX11_steps_33 : decode cX11_steps 33 = .ok (.ireturn, 1) := by decide +kernel
theorem dX11_guess_0 : decode cX11_guess 0 = .ok (.iload_n 2, 1) := by decide +kernel
theorem dX11_guess_1 : decode cX11_guess 1 = .ok (.ifCond .lt 13, 3) := by decide +kernel
theorem dX11_guess_4 : decode cX11_guess 4 = .ok (.iload_n 2, 1) := by decide +kernel
theorem dX11_guess_5 : decode cX11_guess 5 = .ok (.bipush 16, 2) := by decide +kernel
theorem dX11_guess_7 : decode cX11_guess 7 = .ok (.if_icmp .ge 7, 3) := by decide +kernel
theorem dX11_guess_10 : decode cX11_guess 10 = .ok (.iconst 1, 1) := by decide +kernel
theorem dX11_guess_11 : decode cX11_guess 11 = .ok (.goto 4, 3) := by decide +kernel
theorem dX11_guess_14 : decode cX11_guess 14 = .ok (.iconst 0, 1) := by decide +kernel
theorem dX11_guess_15 : decode cX11_guess 15 = .ok (.istore_n 3, 1) := by decide +kernel
theorem dX11_guess_16 : decode cX11_guess 16 = .ok (.iload_n 2, 1) := by decide +kernel
theorem dX11_guess_17 : decode cX11_guess 17 = .ok (.bipush 20, 2) := by decide +kernel
theorem dX11_guess_19 : decode cX11_guess 19 = .ok (.if_icmp .lt 13, 3) := by decide +kernel
theorem dX11_guess_22 : decode cX11_guess 22 = .ok (.iload_n 2, 1) := by decide +kernel
theorem dX11_guess_23 : decode cX11_guess 23 = .ok (.bipush 36, 2) := by decide +kernel
theorem dX11_guess_25 : decode cX11_guess 25 = .ok (.if_icmp .ge 7, 3) := by decide +kernel
theorem dX11_guess_28 : decode cX11_guess 28 = .ok (.iconst 1, 1) := by decide +kernel
theorem dX11_guess_29 : decode cX11_guess 29 = .ok (.goto 4, 3) := by decide +kernel
theorem dX11_guess_32 : decode cX11_guess 32 = .ok (.iconst 0, 1) := by decide +kernel
theorem dX11_guess_33 : decode cX11_guess 33 = .ok (.istore 4, 2) := by decide +kernel
theorem dX11_guess_35 : decode cX11_guess 35 = .ok (.iload_n 3, 1) := by decide +kernel
theorem dX11_guess_36 : decode cX11_guess 36 = .ok (.ifCond .ne 16, 3) := by decide +kernel
theorem dX11_guess_39 : decode cX11_guess 39 = .ok (.iload 4, 2) := by decide +kernel
theorem dX11_guess_41 : decode cX11_guess 41 = .ok (.ifCond .ne 11, 3) := by decide +kernel
theorem dX11_guess_44 : decode cX11_guess 44 = .ok (.iload_n 2, 1) := by decide +kernel
theorem dX11_guess_45 : decode cX11_guess 45 = .ok (.bipush 100, 2) := by decide +kernel
theorem dX11_guess_47 : decode cX11_guess 47 = .ok (.if_icmp .eq 5, 3) := by decide +kernel
theorem dX11_guess_50 : decode cX11_guess 50 = .ok (.iconst (-1), 1) := by decide +kernel
theorem dX11_guess_51 : decode cX11_guess 51 = .ok (.ireturn, 1) := by decide +kernel
theorem dX11_guess_52 : decode cX11_guess 52 = .ok (.iload_n 1, 1) := by decide +kernel
theorem dX11_guess_53 : decode cX11_guess 53 = .ok (.iconst 1, 1) := by decide +kernel
theorem dX11_guess_54 : decode cX11_guess 54 = .ok (.if_icmp .lt 25, 3) := by decide +kernel
theorem dX11_guess_57 : decode cX11_guess 57 = .ok (.iload_n 1, 1) := by decide +kernel
theorem dX11_guess_58 : decode cX11_guess 58 = .ok (.bipush 12, 2) := by decide +kernel
theorem dX11_guess_60 : decode cX11_guess 60 = .ok (.if_icmp .gt 19, 3) := by decide +kernel
theorem dX11_guess_63 : decode cX11_guess 63 = .ok (.aload_n 0, 1) := by decide +kernel
theorem dX11_guess_64 : decode cX11_guess 64 = .ok (.getfield 12, 3) := by decide +kernel
theorem dX11_guess_67 : decode cX11_guess 67 = .ok (.iconst 2, 1) := by decide +kernel
theorem dX11_guess_68 : decode cX11_guess 68 = .ok (.iload_n 1, 1) := by decide +kernel
theorem dX11_guess_69 : decode cX11_guess 69 = .ok (.imul, 1) := by decide +kernel
theorem dX11_guess_70 : decode cX11_guess 70 = .ok (.iconst 2, 1) := by decide +kernel
theorem dX11_guess_71 : decode cX11_guess 71 = .ok (.bipush 24, 2) := by decide +kernel
theorem dX11_guess_73 : decode cX11_guess 73 = .ok (.invokevirtual 79, 3) := by decide +kernel
theorem dX11_guess_76 : decode cX11_guess 76 = .ok (.ifCond .ne 5, 3) := by decide +kernel
theorem dX11_guess_79 : decode cX11_guess 79 = .ok (.iconst (-1), 1) := by decide +kernel
theorem dX11_guess_80 : decode cX11_guess 80 = .ok (.ireturn, 1) := by decide +kernel
theorem dX11_guess_81 : decode cX11_guess 81 = .ok (.aload_n 0, 1) := by decide +kernel
theorem dX11_guess_82 : decode cX11_guess 82 = .ok (.getfield 12, 3) := by decide +kernel
theorem dX11_guess_85 : decode cX11_guess 85 = .ok (.iconst 2, 1) := by decide +kernel
theorem dX11_guess_86 : decode cX11_guess 86 = .ok (.iload_n 1, 1) := by decide +kernel
theorem dX11_guess_87 : decode cX11_guess 87 = .ok (.imul, 1) := by decide +kernel
theorem dX11_guess_88 : decode cX11_guess 88 = .ok (.invokevirtual 83, 3) := by decide +kernel
theorem dX11_guess_91 : decode cX11_guess 91 = .ok (.aload_n 0, 1) := by decide +kernel
theorem dX11_guess_92 : decode cX11_guess 92 = .ok (.getfield 12, 3) := by decide +kernel
theorem dX11_guess_95 : decode cX11_guess 95 = .ok (.aload_n 0, 1) := by decide +kernel
theorem dX11_guess_96 : decode cX11_guess 96 = .ok (.getfield 19, 3) := by decide +kernel
theorem dX11_guess_99 : decode cX11_guess 99 = .ok (.iload_n 1, 1) := by decide +kernel
theorem dX11_guess_100 : decode cX11_guess 100 = .ok (.invokestatic 227, 3) := by decide +kernel
theorem dX11_guess_103 : decode cX11_guess 103 = .ok (.ifCond .ne 6, 3) := by decide +kernel
theorem dX11_guess_106 : decode cX11_guess 106 = .ok (.bipush (-3), 2) := by decide +kernel
theorem dX11_guess_108 : decode cX11_guess 108 = .ok (.ireturn, 1) := by decide +kernel
theorem dX11_guess_109 : decode cX11_guess 109 = .ok (.iload_n 2, 1) := by decide +kernel
theorem dX11_guess_110 : decode cX11_guess 110 = .ok (.bipush 100, 2) := by decide +kernel
theorem dX11_guess_112 : decode cX11_guess 112 = .ok (.if_icmp .ne 16, 3) := by decide +kernel
theorem dX11_guess_115 : decode cX11_guess 115 = .ok (.aload_n 0, 1) := by decide +kernel
theorem dX11_guess_116 : decode cX11_guess 116 = .ok (.getfield 12, 3) := by decide +kernel
theorem dX11_guess_119 : decode cX11_guess 119 = .ok (.aload_n 0, 1) := by decide +kernel
theorem dX11_guess_120 : decode cX11_guess 120 = .ok (.getfield 19, 3) := by decide +kernel
theorem dX11_guess_123 : decode cX11_guess 123 = .ok (.iload_n 1, 1) := by decide +kernel
theorem dX11_guess_124 : decode cX11_guess 124 = .ok (.invokestatic 231, 3) := by decide +kernel
theorem dX11_guess_127 : decode cX11_guess 127 = .ok (.ireturn, 1) := by decide +kernel
theorem dX11_guess_128 : decode cX11_guess 128 = .ok (.iload_n 3, 1) := by decide +kernel
theorem dX11_guess_129 : decode cX11_guess 129 = .ok (.ifCond .eq 7, 3) := by decide +kernel
theorem dX11_guess_132 : decode cX11_guess 132 = .ok (.iload_n 2, 1) := by decide +kernel
theorem dX11_guess_133 : decode cX11_guess 133 = .ok (.goto 7, 3) := by decide +kernel
theorem dX11_guess_136 : decode cX11_guess 136 = .ok (.iload_n 2, 1) := by decide +kernel
theorem dX11_guess_137 : decode cX11_guess 137 = .ok (.bipush 20, 2) := by decide +kernel
theorem dX11_guess_139 : decode cX11_guess 139 = .ok (.isub, 1) := by decide +kernel
theorem dX11_guess_140 : decode cX11_guess 140 = .ok (.istore 5, 2) := by decide +kernel
theorem dX11_guess_142 : decode cX11_guess 142 = .ok (.aload_n 0, 1) := by decide +kernel
theorem dX11_guess_143 : decode cX11_guess 143 = .ok (.getfield 12, 3) := by decide +kernel
theorem dX11_guess_146 : decode cX11_guess 146 = .ok (.aload_n 0, 1) := by decide +kernel
theorem dX11_guess_147 : decode cX11_guess 147 = .ok (.getfield 19, 3) := by decide +kernel
theorem dX11_guess_150 : decode cX11_guess 150 = .ok (.iload_n 1, 1) := by decide +kernel
theorem dX11_guess_151 : decode cX11_guess 151 = .ok (.iload 5, 2) := by decide +kernel
theorem dX11_guess_153 : decode cX11_guess 153 = .ok (.invokestatic 235, 3) := by decide +kernel
theorem dX11_guess_156 : decode cX11_guess 156 = .ok (.istore 6, 2) := by decide +kernel
theorem dX11_guess_158 : decode cX11_guess 158 = .ok (.aload_n 0, 1) := by decide +kernel
theorem dX11_guess_159 : decode cX11_guess 159 = .ok (.getfield 12, 3) := by decide +kernel
theorem dX11_guess_162 : decode cX11_guess 162 = .ok (.aload_n 0, 1) := by decide +kernel
theorem dX11_guess_163 : decode cX11_guess 163 = .ok (.getfield 19, 3) := by decide +kernel
theorem dX11_guess_166 : decode cX11_guess 166 = .ok (.iload_n 1, 1) := by decide +kernel
theorem dX11_guess_167 : decode cX11_guess 167 = .ok (.iload 5, 2) := by decide +kernel
theorem dX11_guess_169 : decode cX11_guess 169 = .ok (.invokestatic 239, 3) := by decide +kernel
theorem dX11_guess_172 : decode cX11_guess 172 = .ok (.istore 7, 2) := by decide +kernel
theorem dX11_guess_174 : decode cX11_guess 174 = .ok (.iload 6, 2) := by decide +kernel
theorem dX11_guess_176 : decode cX11_guess 176 = .ok (.iload 7, 2) := by decide +kernel
theorem dX11_guess_178 : decode cX11_guess 178 = .ok (.if_icmp .le 6, 3) := by decide +kernel
theorem dX11_guess_181 : decode cX11_guess 181 = .ok (.bipush (-2), 2) := by decide +kernel
theorem dX11_guess_183 : decode cX11_guess 183 = .ok (.ireturn, 1) := by decide +kernel
theorem dX11_guess_184 : decode cX11_guess 184 = .ok (.iload_n 3, 1) := by decide +kernel
theorem dX11_guess_185 : decode cX11_guess 185 = .ok (.ifCond .eq 8, 3) := by decide +kernel
theorem dX11_guess_188 : decode cX11_guess 188 = .ok (.iload 6, 2) := by decide +kernel
theorem dX11_guess_190 : decode cX11_guess 190 = .ok (.goto 5, 3) := by decide +kernel
theorem dX11_guess_193 : decode cX11_guess 193 = .ok (.iload 7, 2) := by decide +kernel
theorem dX11_guess_195 : decode cX11_guess 195 = .ok (.ireturn, 1) := by decide +kernel
theorem dX11_sentNext_0 : decode cX11_sentNext 0 = .ok (.iload_n 1, 1) := by decide +kernel
theorem dX11_sentNext_1 : decode cX11_sentNext 1 = .ok (.iconst 1, 1) := by decide +kernel
theorem dX11_sentNext_2 : decode cX11_sentNext 2 = .ok (.if_icmp .lt 18, 3) := by decide +kernel
theorem dX11_sentNext_5 : decode cX11_sentNext 5 = .ok (.iload_n 1, 1) := by decide +kernel
theorem dX11_sentNext_6 : decode cX11_sentNext 6 = .ok (.ldc 242, 2) := by decide +kernel
theorem dX11_sentNext_8 : decode cX11_sentNext 8 = .ok (.if_icmp .gt 12, 3) := by decide +kernel
theorem dX11_sentNext_11 : decode cX11_sentNext 11 = .ok (.iload_n 2, 1) := by decide +kernel
theorem dX11_sentNext_12 : decode cX11_sentNext 12 = .ok (.ifCond .lt 8, 3) := by decide +kernel
theorem dX11_sentNext_15 : decode cX11_sentNext 15 = .ok (.iload_n 2, 1) := by decide +kernel
theorem dX11_sentNext_16 : decode cX11_sentNext 16 = .ok (.iconst 1, 1) := by decide +kernel
theorem dX11_sentNext_17 : decode cX11_sentNext 17 = .ok (.if_icmp .le 5, 3) := by decide +kernel
theorem dX11_sentNext_20 : decode cX11_sentNext 20 = .ok (.iconst (-1), 1) := by decide +kernel
theorem dX11_sentNext_21 : decode cX11_sentNext 21 = .ok (.ireturn, 1) := by decide +kernel
theorem dX11_sentNext_22 : decode cX11_sentNext 22 = .ok (.aload_n 0, 1) := by decide +kernel
theorem dX11_sentNext_23 : decode cX11_sentNext 23 = .ok (.getfield 19, 3) := by decide +kernel
theorem dX11_sentNext_26 : decode cX11_sentNext 26 = .ok (.iload_n 1, 1) := by decide +kernel
theorem dX11_sentNext_27 : decode cX11_sentNext 27 = .ok (.invokestatic 243, 3) := by decide +kernel
theorem dX11_sentNext_30 : decode cX11_sentNext 30 = .ok (.istore_n 3, 1) := by decide +kernel
theorem dX11_sentNext_31 : decode cX11_sentNext 31 = .ok (.iload_n 3, 1) := by decide +kernel
theorem dX11_sentNext_32 : decode cX11_sentNext 32 = .ok (.ifCond .ge 6, 3) := by decide +kernel
theorem dX11_sentNext_35 : decode cX11_sentNext 35 = .ok (.bipush (-2), 2) := by decide +kernel
theorem dX11_sentNext_37 : decode cX11_sentNext 37 = .ok (.ireturn, 1) := by decide +kernel
theorem dX11_sentNext_38 : decode cX11_sentNext 38 = .ok (.iload_n 2, 1) := by decide +kernel
theorem dX11_sentNext_39 : decode cX11_sentNext 39 = .ok (.ifCond .ne 7, 3) := by decide +kernel
theorem dX11_sentNext_42 : decode cX11_sentNext 42 = .ok (.iload_n 3, 1) := by decide +kernel
theorem dX11_sentNext_43 : decode cX11_sentNext 43 = .ok (.goto 12, 3) := by decide +kernel
theorem dX11_sentNext_46 : decode cX11_sentNext 46 = .ok (.aload_n 0, 1) := by decide +kernel
theorem dX11_sentNext_47 : decode cX11_sentNext 47 = .ok (.getfield 19, 3) := by decide +kernel
theorem dX11_sentNext_50 : decode cX11_sentNext 50 = .ok (.iload_n 1, 1) := by decide +kernel
theorem dX11_sentNext_51 : decode cX11_sentNext 51 = .ok (.iload_n 3, 1) := by decide +kernel
theorem dX11_sentNext_52 : decode cX11_sentNext 52 = .ok (.invokestatic 246, 3) := by decide +kernel
theorem dX11_sentNext_55 : decode cX11_sentNext 55 = .ok (.ireturn, 1) := by decide +kernel
theorem dX11_guards_0 : decode cX11_guards 0 = .ok (.aload_n 0, 1) := by decide +kernel
theorem dX11_guards_1 : decode cX11_guards 1 = .ok (.getfield 12, 3) := by decide +kernel
theorem dX11_guards_4 : decode cX11_guards 4 = .ok (.iload_n 1, 1) := by decide +kernel
theorem dX11_guards_5 : decode cX11_guards 5 = .ok (.iconst 3, 1) := by decide +kernel
theorem dX11_guards_6 : decode cX11_guards 6 = .ok (.bipush 6, 2) := by decide +kernel
theorem dX11_guards_8 : decode cX11_guards 8 = .ok (.invokevirtual 79, 3) := by decide +kernel
theorem dX11_guards_11 : decode cX11_guards 11 = .ok (.ifCond .ne 5, 3) := by decide +kernel
theorem dX11_guards_14 : decode cX11_guards 14 = .ok (.iconst (-1), 1) := by decide +kernel
theorem dX11_guards_15 : decode cX11_guards 15 = .ok (.ireturn, 1) := by decide +kernel
theorem dX11_guards_16 : decode cX11_guards 16 = .ok (.aload_n 0, 1) := by decide +kernel
theorem dX11_guards_17 : decode cX11_guards 17 = .ok (.getfield 12, 3) := by decide +kernel
theorem dX11_guards_20 : decode cX11_guards 20 = .ok (.iload_n 1, 1) := by decide +kernel
theorem dX11_guards_21 : decode cX11_guards 21 = .ok (.invokevirtual 83, 3) := by decide +kernel
theorem dX11_guards_24 : decode cX11_guards 24 = .ok (.aload_n 0, 1) := by decide +kernel
theorem dX11_guards_25 : decode cX11_guards 25 = .ok (.getfield 67, 3) := by decide +kernel
theorem dX11_guards_28 : decode cX11_guards 28 = .ok (.aload_n 0, 1) := by decide +kernel
theorem dX11_guards_29 : decode cX11_guards 29 = .ok (.getfield 12, 3) := by decide +kernel
theorem dX11_guards_32 : decode cX11_guards 32 = .ok (.aload_n 0, 1) := by decide +kernel
theorem dX11_guards_33 : decode cX11_guards 33 = .ok (.getfield 19, 3) := by decide +kernel
theorem dX11_guards_36 : decode cX11_guards 36 = .ok (.iload_n 1, 1) := by decide +kernel
theorem dX11_guards_37 : decode cX11_guards 37 = .ok (.invokevirtual 249, 3) := by decide +kernel
theorem dX11_guards_40 : decode cX11_guards 40 = .ok (.ireturn, 1) := by decide +kernel
theorem dX11_word_0 : decode cX11_word 0 = .ok (.iload_n 1, 1) := by decide +kernel
theorem dX11_word_1 : decode cX11_word 1 = .ok (.iconst 1, 1) := by decide +kernel
theorem dX11_word_2 : decode cX11_word 2 = .ok (.if_icmp .lt 19, 3) := by decide +kernel
theorem dX11_word_5 : decode cX11_word 5 = .ok (.iload_n 1, 1) := by decide +kernel
theorem dX11_word_6 : decode cX11_word 6 = .ok (.bipush 8, 2) := by decide +kernel
theorem dX11_word_8 : decode cX11_word 8 = .ok (.if_icmp .gt 13, 3) := by decide +kernel
theorem dX11_word_11 : decode cX11_word 11 = .ok (.iload_n 2, 1) := by decide +kernel
theorem dX11_word_12 : decode cX11_word 12 = .ok (.ifCond .lt 9, 3) := by decide +kernel
theorem dX11_word_15 : decode cX11_word 15 = .ok (.iload_n 2, 1) := by decide +kernel
theorem dX11_word_16 : decode cX11_word 16 = .ok (.ldc 242, 2) := by decide +kernel
theorem dX11_word_18 : decode cX11_word 18 = .ok (.if_icmp .le 7, 3) := by decide +kernel
theorem dX11_word_21 : decode cX11_word 21 = .ok (.ldc2_w 252, 3) := by decide +kernel
theorem dX11_word_24 : decode cX11_word 24 = .ok (.lreturn, 1) := by decide +kernel
theorem dX11_word_25 : decode cX11_word 25 = .ok (.iload_n 3, 1) := by decide +kernel
theorem dX11_word_26 : decode cX11_word 26 = .ok (.ifCond .lt 10, 3) := by decide +kernel
theorem dX11_word_29 : decode cX11_word 29 = .ok (.iload_n 3, 1) := by decide +kernel
theorem dX11_word_30 : decode cX11_word 30 = .ok (.sipush 128, 3) := by decide +kernel
theorem dX11_word_33 : decode cX11_word 33 = .ok (.if_icmp .le 7, 3) := by decide +kernel
theorem dX11_word_36 : decode cX11_word 36 = .ok (.ldc2_w 252, 3) := by decide +kernel
theorem dX11_word_39 : decode cX11_word 39 = .ok (.lreturn, 1) := by decide +kernel
theorem dX11_word_40 : decode cX11_word 40 = .ok (.aload_n 0, 1) := by decide +kernel
theorem dX11_word_41 : decode cX11_word 41 = .ok (.getfield 67, 3) := by decide +kernel
theorem dX11_word_44 : decode cX11_word 44 = .ok (.iload_n 1, 1) := by decide +kernel
theorem dX11_word_45 : decode cX11_word 45 = .ok (.iload_n 2, 1) := by decide +kernel
theorem dX11_word_46 : decode cX11_word 46 = .ok (.iload_n 3, 1) := by decide +kernel
theorem dX11_word_47 : decode cX11_word 47 = .ok (.invokevirtual 254, 3) := by decide +kernel
theorem dX11_word_50 : decode cX11_word 50 = .ok (.lreturn, 1) := by decide +kernel
theorem dX11_rooms_0 : decode cX11_rooms 0 = .ok (.iload_n 2, 1) := by decide +kernel
theorem dX11_rooms_1 : decode cX11_rooms 1 = .ok (.ifCond .lt 23, 3) := by decide +kernel
theorem dX11_rooms_4 : decode cX11_rooms 4 = .ok (.iload_n 2, 1) := by decide +kernel
theorem dX11_rooms_5 : decode cX11_rooms 5 = .ok (.bipush 99, 2) := by decide +kernel
theorem dX11_rooms_7 : decode cX11_rooms 7 = .ok (.if_icmp .gt 17, 3) := by decide +kernel
theorem dX11_rooms_10 : decode cX11_rooms 10 = .ok (.aload_n 0, 1) := by decide +kernel
theorem dX11_rooms_11 : decode cX11_rooms 11 = .ok (.getfield 12, 3) := by decide +kernel
theorem dX11_rooms_14 : decode cX11_rooms 14 = .ok (.iload_n 1, 1) := by decide +kernel
theorem dX11_rooms_15 : decode cX11_rooms 15 = .ok (.iconst 1, 1) := by decide +kernel
theorem dX11_rooms_16 : decode cX11_rooms 16 = .ok (.bipush 12, 2) := by decide +kernel
theorem dX11_rooms_18 : decode cX11_rooms 18 = .ok (.invokevirtual 79, 3) := by decide +kernel
theorem dX11_rooms_21 : decode cX11_rooms 21 = .ok (.ifCond .ne 5, 3) := by decide +kernel
theorem dX11_rooms_24 : decode cX11_rooms 24 = .ok (.iconst (-1), 1) := by decide +kernel
theorem dX11_rooms_25 : decode cX11_rooms 25 = .ok (.ireturn, 1) := by decide +kernel
theorem dX11_rooms_26 : decode cX11_rooms 26 = .ok (.aload_n 0, 1) := by decide +kernel
theorem dX11_rooms_27 : decode cX11_rooms 27 = .ok (.getfield 12, 3) := by decide +kernel
theorem dX11_rooms_30 : decode cX11_rooms 30 = .ok (.iload_n 1, 1) := by decide +kernel
theorem dX11_rooms_31 : decode cX11_rooms 31 = .ok (.invokevirtual 83, 3) := by decide +kernel
theorem dX11_rooms_34 : decode cX11_rooms 34 = .ok (.iconst 0, 1) := by decide +kernel
theorem dX11_rooms_35 : decode cX11_rooms 35 = .ok (.istore_n 3, 1) := by decide +kernel
theorem dX11_rooms_36 : decode cX11_rooms 36 = .ok (.iload_n 3, 1) := by decide +kernel
theorem dX11_rooms_37 : decode cX11_rooms 37 = .ok (.iload_n 1, 1) := by decide +kernel
theorem dX11_rooms_38 : decode cX11_rooms 38 = .ok (.if_icmp .ge 25, 3) := by decide +kernel
theorem dX11_rooms_41 : decode cX11_rooms 41 = .ok (.aload_n 0, 1) := by decide +kernel
theorem dX11_rooms_42 : decode cX11_rooms 42 = .ok (.getfield 12, 3) := by decide +kernel
theorem dX11_rooms_45 : decode cX11_rooms 45 = .ok (.iload_n 3, 1) := by decide +kernel
theorem dX11_rooms_46 : decode cX11_rooms 46 = .ok (.invokevirtual 258, 3) := by decide +kernel
theorem dX11_rooms_49 : decode cX11_rooms 49 = .ok (.bipush 16, 2) := by decide +kernel
theorem dX11_rooms_51 : decode cX11_rooms 51 = .ok (.if_icmp .lt 6, 3) := by decide +kernel
theorem dX11_rooms_54 : decode cX11_rooms 54 = .ok (.bipush (-3), 2) := by decide +kernel
theorem dX11_rooms_56 : decode cX11_rooms 56 = .ok (.ireturn, 1) := by decide +kernel
theorem dX11_rooms_57 : decode cX11_rooms 57 = .ok (.iinc 3 1, 3) := by decide +kernel
theorem dX11_rooms_60 : decode cX11_rooms 60 = .ok (.goto (-24), 3) := by decide +kernel
theorem dX11_rooms_63 : decode cX11_rooms 63 = .ok (.aload_n 0, 1) := by decide +kernel
theorem dX11_rooms_64 : decode cX11_rooms 64 = .ok (.getfield 12, 3) := by decide +kernel
theorem dX11_rooms_67 : decode cX11_rooms 67 = .ok (.iload_n 1, 1) := by decide +kernel
theorem dX11_rooms_68 : decode cX11_rooms 68 = .ok (.iload_n 2, 1) := by decide +kernel
theorem dX11_rooms_69 : decode cX11_rooms 69 = .ok (.invokestatic 261, 3) := by decide +kernel
theorem dX11_rooms_72 : decode cX11_rooms 72 = .ok (.ireturn, 1) := by decide +kernel
theorem dX11_seed_0 : decode cX11_seed 0 = .ok (.iload_n 1, 1) := by decide +kernel
theorem dX11_seed_1 : decode cX11_seed 1 = .ok (.ifCond .lt 9, 3) := by decide +kernel
theorem dX11_seed_4 : decode cX11_seed 4 = .ok (.iload_n 1, 1) := by decide +kernel
theorem dX11_seed_5 : decode cX11_seed 5 = .ok (.ldc 242, 2) := by decide +kernel
theorem dX11_seed_7 : decode cX11_seed 7 = .ok (.if_icmp .le 5, 3) := by decide +kernel
theorem dX11_seed_10 : decode cX11_seed 10 = .ok (.iconst 0, 1) := by decide +kernel
theorem dX11_seed_11 : decode cX11_seed 11 = .ok (.ireturn, 1) := by decide +kernel
theorem dX11_seed_12 : decode cX11_seed 12 = .ok (.aload_n 0, 1) := by decide +kernel
theorem dX11_seed_13 : decode cX11_seed 13 = .ok (.getfield 19, 3) := by decide +kernel
theorem dX11_seed_16 : decode cX11_seed 16 = .ok (.iload_n 1, 1) := by decide +kernel
theorem dX11_seed_17 : decode cX11_seed 17 = .ok (.putfield 265, 3) := by decide +kernel
theorem dX11_seed_20 : decode cX11_seed 20 = .ok (.iconst 1, 1) := by decide +kernel
theorem dX11_seed_21 : decode cX11_seed 21 = .ok (.ireturn, 1) := by decide +kernel
theorem dX11_keep_0 : decode cX11_keep 0 = .ok (.aload_n 0, 1) := by decide +kernel
theorem dX11_keep_1 : decode cX11_keep 1 = .ok (.getfield 26, 3) := by decide +kernel
theorem dX11_keep_4 : decode cX11_keep 4 = .ok (.aload_n 0, 1) := by decide +kernel
theorem dX11_keep_5 : decode cX11_keep 5 = .ok (.getfield 19, 3) := by decide +kernel
theorem dX11_keep_8 : decode cX11_keep 8 = .ok (.invokevirtual 98, 3) := by decide +kernel
theorem dX11_keep_11 : decode cX11_keep 11 = .ok (.aload_n 0, 1) := by decide +kernel
theorem dX11_keep_12 : decode cX11_keep 12 = .ok (.iconst 1, 1) := by decide +kernel
theorem dX11_keep_13 : decode cX11_keep 13 = .ok (.putfield 29, 3) := by decide +kernel
theorem dX11_keep_16 : decode cX11_keep 16 = .ok (.aload_n 0, 1) := by decide +kernel
theorem dX11_keep_17 : decode cX11_keep 17 = .ok (.getfield 19, 3) := by decide +kernel
theorem dX11_keep_20 : decode cX11_keep 20 = .ok (.getfield 268, 3) := by decide +kernel
theorem dX11_keep_23 : decode cX11_keep 23 = .ok (.ireturn, 1) := by decide +kernel
theorem dX11_undo_0 : decode cX11_undo 0 = .ok (.aload_n 0, 1) := by decide +kernel
theorem dX11_undo_1 : decode cX11_undo 1 = .ok (.getfield 29, 3) := by decide +kernel
theorem dX11_undo_4 : decode cX11_undo 4 = .ok (.ifCond .ne 5, 3) := by decide +kernel
theorem dX11_undo_7 : decode cX11_undo 7 = .ok (.iconst 0, 1) := by decide +kernel
theorem dX11_undo_8 : decode cX11_undo 8 = .ok (.ireturn, 1) := by decide +kernel
theorem dX11_undo_9 : decode cX11_undo 9 = .ok (.aload_n 0, 1) := by decide +kernel
theorem dX11_undo_10 : decode cX11_undo 10 = .ok (.getfield 19, 3) := by decide +kernel
theorem dX11_undo_13 : decode cX11_undo 13 = .ok (.aload_n 0, 1) := by decide +kernel
theorem dX11_undo_14 : decode cX11_undo 14 = .ok (.getfield 26, 3) := by decide +kernel
theorem dX11_undo_17 : decode cX11_undo 17 = .ok (.invokevirtual 271, 3) := by decide +kernel
theorem dX11_undo_20 : decode cX11_undo 20 = .ok (.iconst 1, 1) := by decide +kernel
theorem dX11_undo_21 : decode cX11_undo 21 = .ok (.ireturn, 1) := by decide +kernel
theorem dX11_check_0 : decode cX11_check 0 = .ok (.aload_n 0, 1) := by decide +kernel
theorem dX11_check_1 : decode cX11_check 1 = .ok (.getfield 12, 3) := by decide +kernel
theorem dX11_check_4 : decode cX11_check 4 = .ok (.iload_n 1, 1) := by decide +kernel
theorem dX11_check_5 : decode cX11_check 5 = .ok (.iconst 0, 1) := by decide +kernel
theorem dX11_check_6 : decode cX11_check 6 = .ok (.bipush 12, 2) := by decide +kernel
theorem dX11_check_8 : decode cX11_check 8 = .ok (.invokevirtual 79, 3) := by decide +kernel
theorem dX11_check_11 : decode cX11_check 11 = .ok (.ifCond .ne 6, 3) := by decide +kernel
theorem dX11_check_14 : decode cX11_check 14 = .ok (.bipush (-2), 2) := by decide +kernel
theorem dX11_check_16 : decode cX11_check 16 = .ok (.ireturn, 1) := by decide +kernel
theorem dX11_check_17 : decode cX11_check 17 = .ok (.aload_n 0, 1) := by decide +kernel
theorem dX11_check_18 : decode cX11_check 18 = .ok (.getfield 12, 3) := by decide +kernel
theorem dX11_check_21 : decode cX11_check 21 = .ok (.iload_n 1, 1) := by decide +kernel
theorem dX11_check_22 : decode cX11_check 22 = .ok (.invokevirtual 83, 3) := by decide +kernel
theorem dX11_check_25 : decode cX11_check 25 = .ok (.iconst 0, 1) := by decide +kernel
theorem dX11_check_26 : decode cX11_check 26 = .ok (.istore_n 2, 1) := by decide +kernel
theorem dX11_check_27 : decode cX11_check 27 = .ok (.iload_n 2, 1) := by decide +kernel
theorem dX11_check_28 : decode cX11_check 28 = .ok (.iload_n 1, 1) := by decide +kernel
theorem dX11_check_29 : decode cX11_check 29 = .ok (.if_icmp .ge 49, 3) := by decide +kernel
theorem dX11_check_32 : decode cX11_check 32 = .ok (.aload_n 0, 1) := by decide +kernel
theorem dX11_check_33 : decode cX11_check 33 = .ok (.getfield 19, 3) := by decide +kernel
theorem dX11_check_36 : decode cX11_check 36 = .ok (.iload_n 2, 1) := by decide +kernel
theorem dX11_check_37 : decode cX11_check 37 = .ok (.invokevirtual 137, 3) := by decide +kernel
theorem dX11_check_40 : decode cX11_check 40 = .ok (.ifCond .eq 14, 3) := by decide +kernel
theorem dX11_check_43 : decode cX11_check 43 = .ok (.aload_n 0, 1) := by decide +kernel
theorem dX11_check_44 : decode cX11_check 44 = .ok (.getfield 19, 3) := by decide +kernel
theorem dX11_check_47 : decode cX11_check 47 = .ok (.iload_n 2, 1) := by decide +kernel
theorem dX11_check_48 : decode cX11_check 48 = .ok (.invokevirtual 131, 3) := by decide +kernel
theorem dX11_check_51 : decode cX11_check 51 = .ok (.goto 6, 3) := by decide +kernel
theorem dX11_check_54 : decode cX11_check 54 = .ok (.sipush 255, 3) := by decide +kernel
theorem dX11_check_57 : decode cX11_check 57 = .ok (.istore_n 3, 1) := by decide +kernel
theorem dX11_check_58 : decode cX11_check 58 = .ok (.aload_n 0, 1) := by decide +kernel
theorem dX11_check_59 : decode cX11_check 59 = .ok (.getfield 12, 3) := by decide +kernel
theorem dX11_check_62 : decode cX11_check 62 = .ok (.iload_n 2, 1) := by decide +kernel
theorem dX11_check_63 : decode cX11_check 63 = .ok (.invokevirtual 258, 3) := by decide +kernel
theorem dX11_check_66 : decode cX11_check 66 = .ok (.iload_n 3, 1) := by decide +kernel
theorem dX11_check_67 : decode cX11_check 67 = .ok (.if_icmp .eq 5, 3) := by decide +kernel
theorem dX11_check_70 : decode cX11_check 70 = .ok (.iload_n 2, 1) := by decide +kernel
theorem dX11_check_71 : decode cX11_check 71 = .ok (.ireturn, 1) := by decide +kernel
theorem dX11_check_72 : decode cX11_check 72 = .ok (.iinc 2 1, 3) := by decide +kernel
theorem dX11_check_75 : decode cX11_check 75 = .ok (.goto (-48), 3) := by decide +kernel
theorem dX11_check_78 : decode cX11_check 78 = .ok (.iconst (-1), 1) := by decide +kernel
theorem dX11_check_79 : decode cX11_check 79 = .ok (.ireturn, 1) := by decide +kernel
theorem dX11_count_0 : decode cX11_count 0 = .ok (.iload_n 1, 1) := by decide +kernel
theorem dX11_count_1 : decode cX11_count 1 = .ok (.tableswitch 111 0 7 #[47, 55, 63, 71, 79, 87, 95, 103], 47) := by decide +kernel
theorem dX11_count_48 : decode cX11_count 48 = .ok (.aload_n 0, 1) := by decide +kernel
theorem dX11_count_49 : decode cX11_count 49 = .ok (.getfield 19, 3) := by decide +kernel
theorem dX11_count_52 : decode cX11_count 52 = .ok (.getfield 268, 3) := by decide +kernel
theorem dX11_count_55 : decode cX11_count 55 = .ok (.ireturn, 1) := by decide +kernel
theorem dX11_count_56 : decode cX11_count 56 = .ok (.aload_n 0, 1) := by decide +kernel
theorem dX11_count_57 : decode cX11_count 57 = .ok (.getfield 19, 3) := by decide +kernel
theorem dX11_count_60 : decode cX11_count 60 = .ok (.getfield 212, 3) := by decide +kernel
theorem dX11_count_63 : decode cX11_count 63 = .ok (.ireturn, 1) := by decide +kernel
theorem dX11_count_64 : decode cX11_count 64 = .ok (.aload_n 0, 1) := by decide +kernel
theorem dX11_count_65 : decode cX11_count 65 = .ok (.getfield 19, 3) := by decide +kernel
theorem dX11_count_68 : decode cX11_count 68 = .ok (.getfield 274, 3) := by decide +kernel
theorem dX11_count_71 : decode cX11_count 71 = .ok (.ireturn, 1) := by decide +kernel
theorem dX11_count_72 : decode cX11_count 72 = .ok (.aload_n 0, 1) := by decide +kernel
theorem dX11_count_73 : decode cX11_count 73 = .ok (.getfield 19, 3) := by decide +kernel
theorem dX11_count_76 : decode cX11_count 76 = .ok (.invokevirtual 277, 3) := by decide +kernel
theorem dX11_count_79 : decode cX11_count 79 = .ok (.ireturn, 1) := by decide +kernel
theorem dX11_count_80 : decode cX11_count 80 = .ok (.aload_n 0, 1) := by decide +kernel
theorem dX11_count_81 : decode cX11_count 81 = .ok (.getfield 19, 3) := by decide +kernel
theorem dX11_count_84 : decode cX11_count 84 = .ok (.invokevirtual 280, 3) := by decide +kernel
theorem dX11_count_87 : decode cX11_count 87 = .ok (.ireturn, 1) := by decide +kernel
theorem dX11_count_88 : decode cX11_count 88 = .ok (.aload_n 0, 1) := by decide +kernel
theorem dX11_count_89 : decode cX11_count 89 = .ok (.getfield 36, 3) := by decide +kernel
theorem dX11_count_92 : decode cX11_count 92 = .ok (.getfield 283, 3) := by decide +kernel
theorem dX11_count_95 : decode cX11_count 95 = .ok (.ireturn, 1) := by decide +kernel
theorem dX11_count_96 : decode cX11_count 96 = .ok (.aload_n 0, 1) := by decide +kernel
theorem dX11_count_97 : decode cX11_count 97 = .ok (.getfield 12, 3) := by decide +kernel
theorem dX11_count_100 : decode cX11_count 100 = .ok (.getfield 71, 3) := by decide +kernel
theorem dX11_count_103 : decode cX11_count 103 = .ok (.ireturn, 1) := by decide +kernel
theorem dX11_count_104 : decode cX11_count 104 = .ok (.aload_n 0, 1) := by decide +kernel
theorem dX11_count_105 : decode cX11_count 105 = .ok (.getfield 19, 3) := by decide +kernel
theorem dX11_count_108 : decode cX11_count 108 = .ok (.getfield 265, 3) := by decide +kernel
theorem dX11_count_111 : decode cX11_count 111 = .ok (.ireturn, 1) := by decide +kernel
theorem dX11_count_112 : decode cX11_count 112 = .ok (.iconst (-1), 1) := by decide +kernel
theorem dX11_count_113 : decode cX11_count 113 = .ok (.ireturn, 1) := by decide +kernel
theorem dX11_has_0 : decode cX11_has 0 = .ok (.iload_n 1, 1) := by decide +kernel
theorem dX11_has_1 : decode cX11_has 1 = .ok (.ifCond .lt 21, 3) := by decide +kernel
theorem dX11_has_4 : decode cX11_has 4 = .ok (.iload_n 1, 1) := by decide +kernel
theorem dX11_has_5 : decode cX11_has 5 = .ok (.bipush 32, 2) := by decide +kernel
theorem dX11_has_7 : decode cX11_has 7 = .ok (.if_icmp .ge 15, 3) := by decide +kernel
theorem dX11_has_10 : decode cX11_has 10 = .ok (.iload_n 0, 1) := by decide +kernel
theorem dX11_has_11 : decode cX11_has 11 = .ok (.iload_n 1, 1) := by decide +kernel
theorem dX11_has_12 : decode cX11_has 12 = .ok (.ishr, 1) := by decide +kernel
theorem dX11_has_13 : decode cX11_has 13 = .ok (.iconst 1, 1) := by decide +kernel
theorem dX11_has_14 : decode cX11_has 14 = .ok (.iand, 1) := by decide +kernel
theorem dX11_has_15 : decode cX11_has 15 = .ok (.ifCond .eq 7, 3) := by decide +kernel
theorem dX11_has_18 : decode cX11_has 18 = .ok (.iconst 1, 1) := by decide +kernel
theorem dX11_has_19 : decode cX11_has 19 = .ok (.goto 4, 3) := by decide +kernel
theorem dX11_has_22 : decode cX11_has 22 = .ok (.iconst 0, 1) := by decide +kernel
theorem dX11_has_23 : decode cX11_has 23 = .ok (.ireturn, 1) := by decide +kernel
theorem dX12_init_0 : decode cX12_init 0 = .ok (.aload_n 0, 1) := by decide +kernel
theorem dX12_init_1 : decode cX12_init 1 = .ok (.invokespecial 1, 3) := by decide +kernel
theorem dX12_init_4 : decode cX12_init 4 = .ok (.aload_n 0, 1) := by decide +kernel
theorem dX12_init_5 : decode cX12_init 5 = .ok (.sipush 210, 3) := by decide +kernel
theorem dX12_init_8 : decode cX12_init 8 = .ok (.newarray .int, 2) := by decide +kernel
theorem dX12_init_10 : decode cX12_init 10 = .ok (.putfield 7, 3) := by decide +kernel
theorem dX12_init_13 : decode cX12_init 13 = .ok (.aload_n 0, 1) := by decide +kernel
theorem dX12_init_14 : decode cX12_init 14 = .ok (.sipush 210, 3) := by decide +kernel
theorem dX12_init_17 : decode cX12_init 17 = .ok (.newarray .int, 2) := by decide +kernel
theorem dX12_init_19 : decode cX12_init 19 = .ok (.putfield 13, 3) := by decide +kernel
theorem dX12_init_22 : decode cX12_init 22 = .ok (.aload_n 0, 1) := by decide +kernel
theorem dX12_init_23 : decode cX12_init 23 = .ok (.sipush 210, 3) := by decide +kernel
theorem dX12_init_26 : decode cX12_init 26 = .ok (.newarray .int, 2) := by decide +kernel
theorem dX12_init_28 : decode cX12_init 28 = .ok (.putfield 16, 3) := by decide +kernel
theorem dX12_init_31 : decode cX12_init 31 = .ok (.aload_n 0, 1) := by decide +kernel
theorem dX12_init_32 : decode cX12_init 32 = .ok (.bipush 12, 2) := by decide +kernel
theorem dX12_init_34 : decode cX12_init 34 = .ok (.newarray .int, 2) := by decide +kernel
theorem dX12_init_36 : decode cX12_init 36 = .ok (.putfield 19, 3) := by decide +kernel
theorem dX12_init_39 : decode cX12_init 39 = .ok (.aload_n 0, 1) := by decide +kernel
theorem dX12_init_40 : decode cX12_init 40 = .ok (.bipush 12, 2) := by decide +kernel
theorem dX12_init_42 : decode cX12_init 42 = .ok (.newarray .int, 2) := by decide +kernel
theorem dX12_init_44 : decode cX12_init 44 = .ok (.putfield 22, 3) := by decide +kernel
theorem dX12_init_47 : decode cX12_init 47 = .ok (.aload_n 0, 1) := by decide +kernel
theorem dX12_init_48 : decode cX12_init 48 = .ok (.bipush 16, 2) := by decide +kernel
theorem dX12_init_50 : decode cX12_init 50 = .ok (.newarray .int, 2) := by decide +kernel
theorem dX12_init_52 : decode cX12_init 52 = .ok (.putfield 25, 3) := by decide +kernel
theorem dX12_init_55 : decode cX12_init 55 = .ok (.aload_n 0, 1) := by decide +kernel
theorem dX12_init_56 : decode cX12_init 56 = .ok (.bipush 16, 2) := by decide +kernel
theorem dX12_init_58 : decode cX12_init 58 = .ok (.newarray .int, 2) := by decide +kernel
theorem dX12_init_60 : decode cX12_init 60 = .ok (.putfield 28, 3) := by decide +kernel
theorem dX12_init_63 : decode cX12_init 63 = .ok (.aload_n 0, 1) := by decide +kernel
theorem dX12_init_64 : decode cX12_init 64 = .ok (.bipush 16, 2) := by decide +kernel
theorem dX12_init_66 : decode cX12_init 66 = .ok (.newarray .int, 2) := by decide +kernel
theorem dX12_init_68 : decode cX12_init 68 = .ok (.putfield 31, 3) := by decide +kernel
theorem dX12_init_71 : decode cX12_init 71 = .ok (.aload_n 0, 1) := by decide +kernel
theorem dX12_init_72 : decode cX12_init 72 = .ok (.bipush 16, 2) := by decide +kernel
theorem dX12_init_74 : decode cX12_init 74 = .ok (.newarray .int, 2) := by decide +kernel
theorem dX12_init_76 : decode cX12_init 76 = .ok (.putfield 34, 3) := by decide +kernel
theorem dX12_init_79 : decode cX12_init 79 = .ok (.aload_n 0, 1) := by decide +kernel
theorem dX12_init_80 : decode cX12_init 80 = .ok (.sipush 260, 3) := by decide +kernel
theorem dX12_init_83 : decode cX12_init 83 = .ok (.newarray .byte, 2) := by decide +kernel
theorem dX12_init_85 : decode cX12_init 85 = .ok (.putfield 37, 3) := by decide +kernel
theorem dX12_init_88 : decode cX12_init 88 = .ok (.aload_n 0, 1) := by decide +kernel
theorem dX12_init_89 : decode cX12_init 89 = .ok (.sipush 260, 3) := by decide +kernel
theorem dX12_init_92 : decode cX12_init 92 = .ok (.newarray .int, 2) := by decide +kernel
theorem dX12_init_94 : decode cX12_init 94 = .ok (.putfield 41, 3) := by decide +kernel
theorem dX12_init_97 : decode cX12_init 97 = .ok (.aload_n 0, 1) := by decide +kernel
theorem dX12_init_98 : decode cX12_init 98 = .ok (.sipush 260, 3) := by decide +kernel
theorem dX12_init_101 : decode cX12_init 101 = .ok (.newarray .int, 2) := by decide +kernel
theorem dX12_init_103 : decode cX12_init 103 = .ok (.putfield 44, 3) := by decide +kernel
theorem dX12_init_106 : decode cX12_init 106 = .ok (.aload_n 0, 1) := by decide +kernel
theorem dX12_init_107 : decode cX12_init 107 = .ok (.bipush 16, 2) := by decide +kernel
theorem dX12_init_109 : decode cX12_init 109 = .ok (.newarray .int, 2) := by decide +kernel
theorem dX12_init_111 : decode cX12_init 111 = .ok (.putfield 47, 3) := by decide +kernel
theorem dX12_init_114 : decode cX12_init 114 = .ok (.aload_n 0, 1) := by decide +kernel
theorem dX12_init_115 : decode cX12_init 115 = .ok (.bipush 16, 2) := by decide +kernel
theorem dX12_init_117 : decode cX12_init 117 = .ok (.newarray .int, 2) := by decide +kernel
theorem dX12_init_119 : decode cX12_init 119 = .ok (.putfield 50, 3) := by decide +kernel
theorem dX12_init_122 : decode cX12_init 122 = .ok (.aload_n 0, 1) := by decide +kernel
theorem dX12_init_123 : decode cX12_init 123 = .ok (.bipush 16, 2) := by decide +kernel
theorem dX12_init_125 : decode cX12_init 125 = .ok (.newarray .int, 2) := by decide +kernel
theorem dX12_init_127 : decode cX12_init 127 = .ok (.putfield 53, 3) := by decide +kernel
theorem dX12_init_130 : decode cX12_init 130 = .ok (.aload_n 0, 1) := by decide +kernel
theorem dX12_init_131 : decode cX12_init 131 = .ok (.bipush 16, 2) := by decide +kernel
theorem dX12_init_133 : decode cX12_init 133 = .ok (.newarray .int, 2) := by decide +kernel
theorem dX12_init_135 : decode cX12_init 135 = .ok (.putfield 56, 3) := by decide +kernel
theorem dX12_init_138 : decode cX12_init 138 = .ok (.aload_n 0, 1) := by decide +kernel
theorem dX12_init_139 : decode cX12_init 139 = .ok (.sipush 260, 3) := by decide +kernel
theorem dX12_init_142 : decode cX12_init 142 = .ok (.newarray .int, 2) := by decide +kernel
theorem dX12_init_144 : decode cX12_init 144 = .ok (.putfield 59, 3) := by decide +kernel
theorem dX12_init_147 : decode cX12_init 147 = .ok (.aload_n 0, 1) := by decide +kernel
theorem dX12_init_148 : decode cX12_init 148 = .ok (.bipush 16, 2) := by decide +kernel
theorem dX12_init_150 : decode cX12_init 150 = .ok (.newarray .int, 2) := by decide +kernel
theorem dX12_init_152 : decode cX12_init 152 = .ok (.putfield 62, 3) := by decide +kernel
theorem dX12_init_155 : decode cX12_init 155 = .ok (.aload_n 0, 1) := by decide +kernel
theorem dX12_init_156 : decode cX12_init 156 = .ok (.bipush 16, 2) := by decide +kernel
theorem dX12_init_158 : decode cX12_init 158 = .ok (.newarray .int, 2) := by decide +kernel
theorem dX12_init_160 : decode cX12_init 160 = .ok (.putfield 65, 3) := by decide +kernel
theorem dX12_init_163 : decode cX12_init 163 = .ok (.aload_n 0, 1) := by decide +kernel
theorem dX12_init_164 : decode cX12_init 164 = .ok (.bipush 16, 2) := by decide +kernel
theorem dX12_init_166 : decode cX12_init 166 = .ok (.newarray .int, 2) := by decide +kernel
theorem dX12_init_168 : decode cX12_init 168 = .ok (.putfield 68, 3) := by decide +kernel
theorem dX12_init_171 : decode cX12_init 171 = .ok (.aload_n 0, 1) := by decide +kernel
theorem dX12_init_172 : decode cX12_init 172 = .ok (.bipush 16, 2) := by decide +kernel
theorem dX12_init_174 : decode cX12_init 174 = .ok (.newarray .int, 2) := by decide +kernel
theorem dX12_init_176 : decode cX12_init 176 = .ok (.putfield 71, 3) := by decide +kernel
theorem dX12_init_179 : decode cX12_init 179 = .ok (.aload_n 0, 1) := by decide +kernel
theorem dX12_init_180 : decode cX12_init 180 = .ok (.sipush 260, 3) := by decide +kernel
theorem dX12_init_183 : decode cX12_init 183 = .ok (.newarray .int, 2) := by decide +kernel
theorem dX12_init_185 : decode cX12_init 185 = .ok (.putfield 74, 3) := by decide +kernel
theorem dX12_init_188 : decode cX12_init 188 = .ok (.aload_n 0, 1) := by decide +kernel
theorem dX12_init_189 : decode cX12_init 189 = .ok (.bipush 10, 2) := by decide +kernel
theorem dX12_init_191 : decode cX12_init 191 = .ok (.newarray .int, 2) := by decide +kernel
theorem dX12_init_193 : decode cX12_init 193 = .ok (.putfield 77, 3) := by decide +kernel
theorem dX12_init_196 : decode cX12_init 196 = .ok (.aload_n 0, 1) := by decide +kernel
theorem dX12_init_197 : decode cX12_init 197 = .ok (.bipush 12, 2) := by decide +kernel
theorem dX12_init_199 : decode cX12_init 199 = .ok (.newarray .int, 2) := by decide +kernel
theorem dX12_init_201 : decode cX12_init 201 = .ok (.putfield 80, 3) := by decide +kernel
theorem dX12_init_204 : decode cX12_init 204 = .ok (.aload_n 0, 1) := by decide +kernel
theorem dX12_init_205 : decode cX12_init 205 = .ok (.sipush 144, 3) := by decide +kernel
theorem dX12_init_208 : decode cX12_init 208 = .ok (.newarray .int, 2) := by decide +kernel
theorem dX12_init_210 : decode cX12_init 210 = .ok (.putfield 83, 3) := by decide +kernel
theorem dX12_init_213 : decode cX12_init 213 = .ok (.aload_n 0, 1) := by decide +kernel
theorem dX12_init_214 : decode cX12_init 214 = .ok (.sipush 4096, 3) := by decide +kernel
theorem dX12_init_217 : decode cX12_init 217 = .ok (.newarray .boolean, 2) := by decide +kernel
theorem dX12_init_219 : decode cX12_init 219 = .ok (.putfield 86, 3) := by decide +kernel
theorem dX12_init_222 : decode cX12_init 222 = .ok (.aload_n 0, 1) := by decide +kernel
theorem dX12_init_223 : decode cX12_init 223 = .ok (.sipush 4096, 3) := by decide +kernel
theorem dX12_init_226 : decode cX12_init 226 = .ok (.newarray .int, 2) := by decide +kernel
theorem dX12_init_228 : decode cX12_init 228 = .ok (.putfield 90, 3) := by decide +kernel
theorem dX12_init_231 : decode cX12_init 231 = .ok (.aload_n 0, 1) := by decide +kernel
theorem dX12_init_232 : decode cX12_init 232 = .ok (.bipush 16, 2) := by decide +kernel
theorem dX12_init_234 : decode cX12_init 234 = .ok (.newarray .int, 2) := by decide +kernel
theorem dX12_init_236 : decode cX12_init 236 = .ok (.putfield 93, 3) := by decide +kernel
theorem dX12_init_239 : decode cX12_init 239 = .ok (.aload_n 0, 1) := by decide +kernel
theorem dX12_init_240 : decode cX12_init 240 = .ok (.bipush 6, 2) := by decide +kernel
theorem dX12_init_242 : decode cX12_init 242 = .ok (.newarray .int, 2) := by decide +kernel
theorem dX12_init_244 : decode cX12_init 244 = .ok (.putfield 96, 3) := by decide +kernel
theorem dX12_init_247 : decode cX12_init 247 = .ok (.aload_n 0, 1) := by decide +kernel
theorem dX12_init_248 : decode cX12_init 248 = .ok (.sipush 129, 3) := by decide +kernel
theorem dX12_init_251 : decode cX12_init 251 = .ok (.newarray .long, 2) := by decide +kernel
theorem dX12_init_253 : decode cX12_init 253 = .ok (.putfield 99, 3) := by decide +kernel
theorem dX12_init_256 : decode cX12_init 256 = .ok (.aload_n 0, 1) := by decide +kernel
theorem dX12_init_257 : decode cX12_init 257 = .ok (.sipush 129, 3) := by decide +kernel
theorem dX12_init_260 : decode cX12_init 260 = .ok (.newarray .long, 2) := by decide +kernel
theorem dX12_init_262 : decode cX12_init 262 = .ok (.putfield 103, 3) := by decide +kernel
theorem dX12_init_265 : decode cX12_init 265 = .ok (.aload_n 0, 1) := by decide +kernel
theorem dX12_init_266 : decode cX12_init 266 = .ok (.ldc 106, 2) := by decide +kernel
theorem dX12_init_268 : decode cX12_init 268 = .ok (.newarray .int, 2) := by decide +kernel
theorem dX12_init_270 : decode cX12_init 270 = .ok (.putfield 107, 3) := by decide +kernel
theorem dX12_init_273 : decode cX12_init 273 = .ok (.aload_n 0, 1) := by decide +kernel
theorem dX12_init_274 : decode cX12_init 274 = .ok (.getfield 7, 3) := by decide +kernel
theorem dX12_init_277 : decode cX12_init 277 = .ok (.sipush 209, 3) := by decide +kernel
theorem dX12_init_280 : decode cX12_init 280 = .ok (.iconst 1, 1) := by decide +kernel
theorem dX12_init_281 : decode cX12_init 281 = .ok (.iastore, 1) := by decide +kernel
theorem dX12_init_282 : decode cX12_init 282 = .ok (.return_, 1) := by decide +kernel
theorem dX12_in_0 : decode cX12_in 0 = .ok (.iload_n 0, 1) := by decide +kernel
theorem dX12_in_1 : decode cX12_in 1 = .ok (.iload_n 1, 1) := by decide +kernel
theorem dX12_in_2 : decode cX12_in 2 = .ok (.if_icmp .lt 12, 3) := by decide +kernel
theorem dX12_in_5 : decode cX12_in 5 = .ok (.iload_n 0, 1) := by decide +kernel
theorem dX12_in_6 : decode cX12_in 6 = .ok (.iload_n 2, 1) := by decide +kernel
theorem dX12_in_7 : decode cX12_in 7 = .ok (.if_icmp .gt 7, 3) := by decide +kernel
theorem dX12_in_10 : decode cX12_in 10 = .ok (.iconst 1, 1) := by decide +kernel
theorem dX12_in_11 : decode cX12_in 11 = .ok (.goto 4, 3) := by decide +kernel
theorem dX12_in_14 : decode cX12_in 14 = .ok (.iconst 0, 1) := by decide +kernel
theorem dX12_in_15 : decode cX12_in 15 = .ok (.ireturn, 1) := by decide +kernel
theorem dX12_min_0 : decode cX12_min 0 = .ok (.iload_n 0, 1) := by decide +kernel
theorem dX12_min_1 : decode cX12_min 1 = .ok (.iload_n 1, 1) := by decide +kernel
theorem dX12_min_2 : decode cX12_min 2 = .ok (.if_icmp .ge 7, 3) := by decide +kernel
theorem dX12_min_5 : decode cX12_min 5 = .ok (.iload_n 0, 1) := by decide +kernel
theorem dX12_min_6 : decode cX12_min 6 = .ok (.goto 4, 3) := by decide +kernel
theorem dX12_min_9 : decode cX12_min 9 = .ok (.iload_n 1, 1) := by decide +kernel
theorem dX12_min_10 : decode cX12_min 10 = .ok (.ireturn, 1) := by decide +kernel
theorem dX12_max_0 : decode cX12_max 0 = .ok (.iload_n 0, 1) := by decide +kernel
theorem dX12_max_1 : decode cX12_max 1 = .ok (.iload_n 1, 1) := by decide +kernel
theorem dX12_max_2 : decode cX12_max 2 = .ok (.if_icmp .le 7, 3) := by decide +kernel
theorem dX12_max_5 : decode cX12_max 5 = .ok (.iload_n 0, 1) := by decide +kernel
theorem dX12_max_6 : decode cX12_max 6 = .ok (.goto 4, 3) := by decide +kernel
theorem dX12_max_9 : decode cX12_max 9 = .ok (.iload_n 1, 1) := by decide +kernel
theorem dX12_max_10 : decode cX12_max 10 = .ok (.ireturn, 1) := by decide +kernel
theorem dX12_has_0 : decode cX12_has 0 = .ok (.iload_n 0, 1) := by decide +kernel
theorem dX12_has_1 : decode cX12_has 1 = .ok (.iload_n 1, 1) := by decide +kernel
theorem dX12_has_2 : decode cX12_has 2 = .ok (.ishr, 1) := by decide +kernel
theorem dX12_has_3 : decode cX12_has 3 = .ok (.iconst 1, 1) := by decide +kernel
theorem dX12_has_4 : decode cX12_has 4 = .ok (.iand, 1) := by decide +kernel
theorem dX12_has_5 : decode cX12_has 5 = .ok (.iconst 1, 1) := by decide +kernel
theorem dX12_has_6 : decode cX12_has 6 = .ok (.if_icmp .ne 7, 3) := by decide +kernel
theorem dX12_has_9 : decode cX12_has 9 = .ok (.iconst 1, 1) := by decide +kernel
theorem dX12_has_10 : decode cX12_has 10 = .ok (.goto 4, 3) := by decide +kernel
theorem dX12_has_13 : decode cX12_has 13 = .ok (.iconst 0, 1) := by decide +kernel
theorem dX12_has_14 : decode cX12_has 14 = .ok (.ireturn, 1) := by decide +kernel
theorem dX12_bits_0 : decode cX12_bits 0 = .ok (.iconst 0, 1) := by decide +kernel
theorem dX12_bits_1 : decode cX12_bits 1 = .ok (.istore_n 1, 1) := by decide +kernel
theorem dX12_bits_2 : decode cX12_bits 2 = .ok (.iconst 0, 1) := by decide +kernel
theorem dX12_bits_3 : decode cX12_bits 3 = .ok (.istore_n 2, 1) := by decide +kernel
theorem dX12_bits_4 : decode cX12_bits 4 = .ok (.iload_n 2, 1) := by decide +kernel
theorem dX12_bits_5 : decode cX12_bits 5 = .ok (.bipush 16, 2) := by decide +kernel
theorem dX12_bits_7 : decode cX12_bits 7 = .ok (.if_icmp .ge 17, 3) := by decide +kernel
theorem dX12_bits_10 : decode cX12_bits 10 = .ok (.iload_n 1, 1) := by decide +kernel
theorem dX12_bits_11 : decode cX12_bits 11 = .ok (.iload_n 0, 1) := by decide +kernel
theorem dX12_bits_12 : decode cX12_bits 12 = .ok (.iload_n 2, 1) := by decide +kernel
theorem dX12_bits_13 : decode cX12_bits 13 = .ok (.ishr, 1) := by decide +kernel
theorem dX12_bits_14 : decode cX12_bits 14 = .ok (.iconst 1, 1) := by decide +kernel
theorem dX12_bits_15 : decode cX12_bits 15 = .ok (.iand, 1) := by decide +kernel
theorem dX12_bits_16 : decode cX12_bits 16 = .ok (.iadd, 1) := by decide +kernel
theorem dX12_bits_17 : decode cX12_bits 17 = .ok (.istore_n 1, 1) := by decide +kernel
theorem dX12_bits_18 : decode cX12_bits 18 = .ok (.iinc 2 1, 3) := by decide +kernel
theorem dX12_bits_21 : decode cX12_bits 21 = .ok (.goto (-17), 3) := by decide +kernel
theorem dX12_bits_24 : decode cX12_bits 24 = .ok (.iload_n 1, 1) := by decide +kernel
theorem dX12_bits_25 : decode cX12_bits 25 = .ok (.ireturn, 1) := by decide +kernel
theorem dX12_copies_0 : decode cX12_copies 0 = .ok (.iconst 0, 1) := by decide +kernel
theorem dX12_copies_1 : decode cX12_copies 1 = .ok (.istore_n 2, 1) := by decide +kernel
theorem dX12_copies_2 : decode cX12_copies 2 = .ok (.iload_n 2, 1) := by decide +kernel
theorem dX12_copies_3 : decode cX12_copies 3 = .ok (.sipush 210, 3) := by decide +kernel
theorem dX12_copies_6 : decode cX12_copies 6 = .ok (.if_icmp .ge 15, 3) := by decide +kernel
theorem dX12_copies_9 : decode cX12_copies 9 = .ok (.aload_n 1, 1) := by decide +kernel
theorem dX12_copies_10 : decode cX12_copies 10 = .ok (.iload_n 2, 1) := by decide +kernel
theorem dX12_copies_11 : decode cX12_copies 11 = .ok (.aload_n 0, 1) := by decide +kernel
theorem dX12_copies_12 : decode cX12_copies 12 = .ok (.iload_n 2, 1) := by decide +kernel
theorem dX12_copies_13 : decode cX12_copies 13 = .ok (.iaload, 1) := by decide +kernel
theorem dX12_copies_14 : decode cX12_copies 14 = .ok (.iastore, 1) := by decide +kernel
theorem dX12_copies_15 : decode cX12_copies 15 = .ok (.iinc 2 1, 3) := by decide +kernel
theorem dX12_copies_18 : decode cX12_copies 18 = .ok (.goto (-16), 3) := by decide +kernel
theorem dX12_copies_21 : decode cX12_copies 21 = .ok (.return_, 1) := by decide +kernel
theorem dX12_isTold_0 : decode cX12_isTold 0 = .ok (.iload_n 1, 1) := by decide +kernel
theorem dX12_isTold_1 : decode cX12_isTold 1 = .ok (.iconst 0, 1) := by decide +kernel
theorem dX12_isTold_2 : decode cX12_isTold 2 = .ok (.bipush 11, 2) := by decide +kernel
theorem dX12_isTold_4 : decode cX12_isTold 4 = .ok (.invokestatic 117, 3) := by decide +kernel
theorem dX12_isTold_7 : decode cX12_isTold 7 = .ok (.ifCond .eq 18, 3) := by decide +kernel
theorem dX12_isTold_10 : decode cX12_isTold 10 = .ok (.aload_n 0, 1) := by decide +kernel
theorem dX12_isTold_11 : decode cX12_isTold 11 = .ok (.getfield 121, 3) := by decide +kernel
theorem dX12_isTold_14 : decode cX12_isTold 14 = .ok (.iload_n 1, 1) := by decide +kernel
theorem dX12_isTold_15 : decode cX12_isTold 15 = .ok (.invokestatic 125, 3) := by decide +kernel
theorem dX12_isTold_18 : decode cX12_isTold 18 = .ok (.ifCond .eq 7, 3) := by decide +kernel
theorem dX12_isTold_21 : decode cX12_isTold 21 = .ok (.iconst 1, 1) := by decide +kernel
theorem dX12_isTold_22 : decode cX12_isTold 22 = .ok (.goto 4, 3) := by decide +kernel
theorem dX12_isTold_25 : decode cX12_isTold 25 = .ok (.iconst 0, 1) := by decide +kernel
theorem dX12_isTold_26 : decode cX12_isTold 26 = .ok (.ireturn, 1) := by decide +kernel
theorem dX12_isDoor_0 : decode cX12_isDoor 0 = .ok (.iload_n 1, 1) := by decide +kernel
theorem dX12_isDoor_1 : decode cX12_isDoor 1 = .ok (.iconst 0, 1) := by decide +kernel
theorem dX12_isDoor_2 : decode cX12_isDoor 2 = .ok (.bipush 15, 2) := by decide +kernel
theorem dX12_isDoor_4 : decode cX12_isDoor 4 = .ok (.invokestatic 117, 3) := by decide +kernel
theorem dX12_isDoor_7 : decode cX12_isDoor 7 = .ok (.ifCond .eq 18, 3) := by decide +kernel
theorem dX12_isDoor_10 : decode cX12_isDoor 10 = .ok (.aload_n 0, 1) := by decide +kernel
theorem dX12_isDoor_11 : decode cX12_isDoor 11 = .ok (.getfield 129, 3) := by decide +kernel
theorem dX12_isDoor_14 : decode cX12_isDoor 14 = .ok (.iload_n 1, 1) := by decide +kernel
theorem dX12_isDoor_15 : decode cX12_isDoor 15 = .ok (.invokestatic 125, 3) := by decide +kernel
theorem dX12_isDoor_18 : decode cX12_isDoor 18 = .ok (.ifCond .eq 7, 3) := by decide +kernel
theorem dX12_isDoor_21 : decode cX12_isDoor 21 = .ok (.iconst 1, 1) := by decide +kernel
theorem dX12_isDoor_22 : decode cX12_isDoor 22 = .ok (.goto 4, 3) := by decide +kernel
theorem dX12_isDoor_25 : decode cX12_isDoor 25 = .ok (.iconst 0, 1) := by decide +kernel
theorem dX12_isDoor_26 : decode cX12_isDoor 26 = .ok (.ireturn, 1) := by decide +kernel
theorem dX12_dread_0 : decode cX12_dread 0 = .ok (.aload_n 0, 1) := by decide +kernel
theorem dX12_dread_1 : decode cX12_dread 1 = .ok (.getfield 7, 3) := by decide +kernel
theorem dX12_dread_4 : decode cX12_dread 4 = .ok (.iconst 0, 1) := by decide +kernel
theorem dX12_dread_5 : decode cX12_dread 5 = .ok (.bipush 16, 2) := by decide +kernel
theorem dX12_dread_7 : decode cX12_dread 7 = .ok (.iload_n 1, 1) := by decide +kernel
theorem dX12_dread_8 : decode cX12_dread 8 = .ok (.imul, 1) := by decide +kernel
theorem dX12_dread_9 : decode cX12_dread 9 = .ok (.iadd, 1) := by decide +kernel
theorem dX12_dread_10 : decode cX12_dread 10 = .ok (.iload_n 2, 1) := by decide +kernel
theorem dX12_dread_11 : decode cX12_dread 11 = .ok (.iadd, 1) := by decide +kernel
theorem dX12_dread_12 : decode cX12_dread 12 = .ok (.iaload, 1) := by decide +kernel
theorem dX12_dread_13 : decode cX12_dread 13 = .ok (.ireturn, 1) := by decide +kernel
theorem dX12_greatest_0 : decode cX12_greatest 0 = .ok (.iconst 0, 1) := by decide +kernel
theorem dX12_greatest_1 : decode cX12_greatest 1 = .ok (.istore_n 2, 1) := by decide +kernel
theorem dX12_greatest_2 : decode cX12_greatest 2 = .ok (.iconst 0, 1) := by decide +kernel
theorem dX12_greatest_3 : decode cX12_greatest 3 = .ok (.istore_n 3, 1) := by decide +kernel
theorem dX12_greatest_4 : decode cX12_greatest 4 = .ok (.iload_n 3, 1) := by decide +kernel
theorem dX12_greatest_5 : decode cX12_greatest 5 = .ok (.bipush 16, 2) := by decide +kernel
theorem dX12_greatest_7 : decode cX12_greatest 7 = .ok (.if_icmp .ge 20, 3) := by decide +kernel
theorem dX12_greatest_10 : decode cX12_greatest 10 = .ok (.iload_n 2, 1) := by decide +kernel
theorem dX12_greatest_11 : decode cX12_greatest 11 = .ok (.aload_n 0, 1) := by decide +kernel
theorem dX12_greatest_12 : decode cX12_greatest 12 = .ok (.iload_n 1, 1) := by decide +kernel
theorem dX12_greatest_13 : decode cX12_greatest 13 = .ok (.iload_n 3, 1) := by decide +kernel
theorem dX12_greatest_14 : decode cX12_greatest 14 = .ok (.invokevirtual 132, 3) := by decide +kernel
theorem dX12_greatest_17 : decode cX12_greatest 17 = .ok (.invokestatic 114, 3) := by decide +kernel
theorem dX12_greatest_20 : decode cX12_greatest 20 = .ok (.istore_n 2, 1) := by decide +kernel
theorem dX12_greatest_21 : decode cX12_greatest 21 = .ok (.iinc 3 1, 3) := by decide +kernel
theorem dX12_greatest_24 : decode cX12_greatest 24 = .ok (.goto (-20), 3) := by decide +kernel
theorem dX12_greatest_27 : decode cX12_greatest 27 = .ok (.iload_n 2, 1) := by decide +kernel
theorem dX12_greatest_28 : decode cX12_greatest 28 = .ok (.ireturn, 1) := by decide +kernel
theorem dX12_fearOf_0 : decode cX12_fearOf 0 = .ok (.aload_n 0, 1) := by decide +kernel
theorem dX12_fearOf_1 : decode cX12_fearOf 1 = .ok (.iload_n 1, 1) := by decide +kernel
theorem dX12_fearOf_2 : decode cX12_fearOf 2 = .ok (.invokevirtual 135, 3) := by decide +kernel
theorem dX12_fearOf_5 : decode cX12_fearOf 5 = .ok (.istore_n 2, 1) := by decide +kernel
theorem dX12_fearOf_6 : decode cX12_fearOf 6 = .ok (.iconst (-1), 1) := by decide +kernel
theorem dX12_fearOf_7 : decode cX12_fearOf 7 = .ok (.istore_n 3, 1) := by decide +kernel
theorem dX12_fearOf_8 : decode cX12_fearOf 8 = .ok (.iconst 0, 1) := by decide +kernel
theorem dX12_fearOf_9 : decode cX12_fearOf 9 = .ok (.istore 4, 2) := by decide +kernel
theorem dX12_fearOf_11 : decode cX12_fearOf 11 = .ok (.iconst 0, 1) := by decide +kernel
theorem dX12_fearOf_12 : decode cX12_fearOf 12 = .ok (.istore 5, 2) := by decide +kernel
theorem dX12_fearOf_14 : decode cX12_fearOf 14 = .ok (.iload 5, 2) := by decide +kernel
theorem dX12_fearOf_16 : decode cX12_fearOf 16 = .ok (.bipush 16, 2) := by decide +kernel
theorem dX12_fearOf_18 : decode cX12_fearOf 18 = .ok (.if_icmp .ge 32, 3) := by decide +kernel
theorem dX12_fearOf_21 : decode cX12_fearOf 21 = .ok (.aload_n 0, 1) := by decide +kernel
theorem dX12_fearOf_22 : decode cX12_fearOf 22 = .ok (.iload_n 1, 1) := by decide +kernel
theorem dX12_fearOf_23 : decode cX12_fearOf 23 = .ok (.iload 5, 2) := by decide +kernel
theorem dX12_fearOf_25 : decode cX12_fearOf 25 = .ok (.invokevirtual 132, 3) := by decide +kernel
theorem dX12_fearOf_28 : decode cX12_fearOf 28 = .ok (.iload_n 2, 1) := by decide +kernel
theorem dX12_fearOf_29 : decode cX12_fearOf 29 = .ok (.if_icmp .eq 6, 3) := by decide +kernel
theorem dX12_fearOf_32 : decode cX12_fearOf 32 = .ok (.goto 12, 3) := by decide +kernel
theorem dX12_fearOf_35 : decode cX12_fearOf 35 = .ok (.iload 5, 2) := by decide +kernel
theorem dX12_fearOf_37 : decode cX12_fearOf 37 = .ok (.istore_n 3, 1) := by decide +kernel
theorem dX12_fearOf_38 : decode cX12_fearOf 38 = .ok (.iload 4, 2) := by decide +kernel
theorem dX12_fearOf_40 : decode cX12_fearOf 40 = .ok (.iconst 1, 1) := by decide +kernel
theorem dX12_fearOf_41 : decode cX12_fearOf 41 = .ok (.iadd, 1) := by decide +kernel
theorem dX12_fearOf_42 : decode cX12_fearOf 42 = .ok (.istore 4, 2) := by decide +kernel
theorem dX12_fearOf_44 : decode cX12_fearOf 44 = .ok (.iinc 5 1, 3) := by decide +kernel
theorem dX12_fearOf_47 : decode cX12_fearOf 47 = .ok (.goto (-33), 3) := by decide +kernel
theorem dX12_fearOf_50 : decode cX12_fearOf 50 = .ok (.iload_n 2, 1) := by decide +kernel
theorem dX12_fearOf_51 : decode cX12_fearOf 51 = .ok (.ifCond .le 13, 3) := by decide +kernel
theorem dX12_fearOf_54 : decode cX12_fearOf 54 = .ok (.iload 4, 2) := by decide +kernel
theorem dX12_fearOf_56 : decode cX12_fearOf 56 = .ok (.iconst 1, 1) := by decide +kernel
theorem dX12_fearOf_57 : decode cX12_fearOf 57 = .ok (.if_icmp .ne 7, 3) := by decide +kernel
theorem dX12_fearOf_60 : decode cX12_fearOf 60 = .ok (.iload_n 3, 1) := by decide +kernel
theorem dX12_fearOf_61 : decode cX12_fearOf 61 = .ok (.goto 4, 3) := by decide +kernel
theorem dX12_fearOf_64 : decode cX12_fearOf 64 = .ok (.iconst (-1), 1) := by decide +kernel
theorem dX12_fearOf_65 : decode cX12_fearOf 65 = .ok (.ireturn, 1) := by decide +kernel
theorem dX12_unlocks_0 : decode cX12_unlocks 0 = .ok (.aload_n 0, 1) := by decide +kernel
theorem dX12_unlocks_1 : decode cX12_unlocks 1 = .ok (.iload_n 1, 1) := by decide +kernel
theorem dX12_unlocks_2 : decode cX12_unlocks 2 = .ok (.invokevirtual 139, 3) := by decide +kernel
theorem dX12_unlocks_5 : decode cX12_unlocks 5 = .ok (.aload_n 0, 1) := by decide +kernel
theorem dX12_unlocks_6 : decode cX12_unlocks 6 = .ok (.getfield 25, 3) := by decide +kernel
theorem dX12_unlocks_9 : decode cX12_unlocks 9 = .ok (.iload_n 2, 1) := by decide +kernel
theorem dX12_unlocks_10 : decode cX12_unlocks 10 = .ok (.iaload, 1) := by decide +kernel
theorem dX12_unlocks_11 : decode cX12_unlocks 11 = .ok (.if_icmp .ne 27, 3) := by decide +kernel
theorem dX12_unlocks_14 : decode cX12_unlocks 14 = .ok (.aload_n 0, 1) := by decide +kernel
theorem dX12_unlocks_15 : decode cX12_unlocks 15 = .ok (.iload_n 1, 1) := by decide +kernel
theorem dX12_unlocks_16 : decode cX12_unlocks 16 = .ok (.aload_n 0, 1) := by decide +kernel
theorem dX12_unlocks_17 : decode cX12_unlocks 17 = .ok (.getfield 25, 3) := by decide +kernel
theorem dX12_unlocks_20 : decode cX12_unlocks 20 = .ok (.iload_n 2, 1) := by decide +kernel
theorem dX12_unlocks_21 : decode cX12_unlocks 21 = .ok (.iaload, 1) := by decide +kernel
theorem dX12_unlocks_22 : decode cX12_unlocks 22 = .ok (.invokevirtual 132, 3) := by decide +kernel
theorem dX12_unlocks_25 : decode cX12_unlocks 25 = .ok (.aload_n 0, 1) := by decide +kernel
theorem dX12_unlocks_26 : decode cX12_unlocks 26 = .ok (.getfield 28, 3) := by decide +kernel
theorem dX12_unlocks_29 : decode cX12_unlocks 29 = .ok (.iload_n 2, 1) := by decide +kernel
theorem dX12_unlocks_30 : decode cX12_unlocks 30 = .ok (.iaload, 1) := by decide +kernel
theorem dX12_unlocks_31 : decode cX12_unlocks 31 = .ok (.if_icmp .lt 7, 3) := by decide +kernel
theorem dX12_unlocks_34 : decode cX12_unlocks 34 = .ok (.iconst 1, 1) := by decide +kernel
theorem dX12_unlocks_35 : decode cX12_unlocks 35 = .ok (.goto 4, 3) := by decide +kernel
theorem dX12_unlocks_38 : decode cX12_unlocks 38 = .ok (.iconst 0, 1) := by decide +kernel
theorem dX12_unlocks_39 : decode cX12_unlocks 39 = .ok (.ireturn, 1) := by decide +kernel
theorem dX12_doorsOf_0 : decode cX12_doorsOf 0 = .ok (.iconst 0, 1) := by decide +kernel
theorem dX12_doorsOf_1 : decode cX12_doorsOf 1 = .ok (.istore_n 2, 1) := by decide +kernel
theorem dX12_doorsOf_2 : decode cX12_doorsOf 2 = .ok (.iconst 0, 1) := by decide +kernel
theorem dX12_doorsOf_3 : decode cX12_doorsOf 3 = .ok (.istore_n 3, 1) := by decide +kernel
theorem dX12_doorsOf_4 : decode cX12_doorsOf 4 = .ok (.iload_n 3, 1) := by decide +kernel
theorem dX12_doorsOf_5 : decode cX12_doorsOf 5 = .ok (.bipush 16, 2) := by decide +kernel
theorem dX12_doorsOf_7 : decode cX12_doorsOf 7 = .ok (.if_icmp .ge 32, 3) := by decide +kernel
theorem dX12_doorsOf_10 : decode cX12_doorsOf 10 = .ok (.aload_n 0, 1) := by decide +kernel
theorem dX12_doorsOf_11 : decode cX12_doorsOf 11 = .ok (.iload_n 3, 1) := by decide +kernel
theorem dX12_doorsOf_12 : decode cX12_doorsOf 12 = .ok (.invokevirtual 142, 3) := by decide +kernel
theorem dX12_doorsOf_15 : decode cX12_doorsOf 15 = .ok (.ifCond .eq 18, 3) := by decide +kernel
theorem dX12_doorsOf_18 : decode cX12_doorsOf 18 = .ok (.aload_n 0, 1) := by decide +kernel
theorem dX12_doorsOf_19 : decode cX12_doorsOf 19 = .ok (.iload_n 1, 1) := by decide +kernel
theorem dX12_doorsOf_20 : decode cX12_doorsOf 20 = .ok (.iload_n 3, 1) := by decide +kernel
theorem dX12_doorsOf_21 : decode cX12_doorsOf 21 = .ok (.invokevirtual 146, 3) := by decide +kernel
theorem dX12_doorsOf_24 : decode cX12_doorsOf 24 = .ok (.ifCond .eq 9, 3) := by decide +kernel
theorem dX12_doorsOf_27 : decode cX12_doorsOf 27 = .ok (.iload_n 2, 1) := by decide +kernel
theorem dX12_doorsOf_28 : decode cX12_doorsOf 28 = .ok (.iconst 1, 1) := by decide +kernel
theorem dX12_doorsOf_29 : decode cX12_doorsOf 29 = .ok (.iload_n 3, 1) := by decide +kernel
theorem dX12_doorsOf_30 : decode cX12_doorsOf 30 = .ok (.ishl, 1) := by decide +kernel
theorem dX12_doorsOf_31 : decode cX12_doorsOf 31 = .ok (.ior, 1) := by decide +kernel
theorem dX12_doorsOf_32 : decode cX12_doorsOf 32 = .ok (.istore_n 2, 1) := by decide +kernel
theorem dX12_doorsOf_33 : decode cX12_doorsOf 33 = .ok (.iinc 3 1, 3) := by decide +kernel
theorem dX12_doorsOf_36 : decode cX12_doorsOf 36 = .ok (.goto (-32), 3) := by decide +kernel
theorem dX12_doorsOf_39 : decode cX12_doorsOf 39 = .ok (.iload_n 2, 1) := by decide +kernel
theorem dX12_doorsOf_40 : decode cX12_doorsOf 40 = .ok (.ireturn, 1) := by decide +kernel
theorem dX12_whoUnlocks_0 : decode cX12_whoUnlocks 0 = .ok (.iconst 0, 1) := by decide +kernel
theorem dX12_whoUnlocks_1 : decode cX12_whoUnlocks 1 = .ok (.istore_n 2, 1) := by decide +kernel
theorem dX12_whoUnlocks_2 : decode cX12_whoUnlocks 2 = .ok (.iconst 0, 1) := by decide +kernel
theorem dX12_whoUnlocks_3 : decode cX12_whoUnlocks 3 = .ok (.istore_n 3, 1) := by decide +kernel
theorem dX12_whoUnlocks_4 : decode cX12_whoUnlocks 4 = .ok (.iload_n 3, 1) := by decide +kernel
theorem dX12_whoUnlocks_5 : decode cX12_whoUnlocks 5 = .ok (.bipush 12, 2) := by decide +kernel
theorem dX12_whoUnlocks_7 : decode cX12_whoUnlocks 7 = .ok (.if_icmp .ge 32, 3) := by decide +kernel
theorem dX12_whoUnlocks_10 : decode cX12_whoUnlocks 10 = .ok (.aload_n 0, 1) := by decide +kernel
theorem dX12_whoUnlocks_11 : decode cX12_whoUnlocks 11 = .ok (.iload_n 3, 1) := by decide +kernel
theorem dX12_whoUnlocks_12 : decode cX12_whoUnlocks 12 = .ok (.invokevirtual 149, 3) := by decide +kernel
theorem dX12_whoUnlocks_15 : decode cX12_whoUnlocks 15 = .ok (.ifCond .eq 18, 3) := by decide +kernel
theorem dX12_whoUnlocks_18 : decode cX12_whoUnlocks 18 = .ok (.aload_n 0, 1) := by decide +kernel
theorem dX12_whoUnlocks_19 : decode cX12_whoUnlocks 19 = .ok (.iload_n 3, 1) := by decide +kernel
theorem dX12_whoUnlocks_20 : decode cX12_whoUnlocks 20 = .ok (.iload_n 1, 1) := by decide +kernel
theorem dX12_whoUnlocks_21 : decode cX12_whoUnlocks 21 = .ok (.invokevirtual 146, 3) := by decide +kernel
theorem dX12_whoUnlocks_24 : decode cX12_whoUnlocks 24 = .ok (.ifCond .eq 9, 3) := by decide +kernel
theorem dX12_whoUnlocks_27 : decode cX12_whoUnlocks 27 = .ok (.iload_n 2, 1) := by decide +kernel
theorem dX12_whoUnlocks_28 : decode cX12_whoUnlocks 28 = .ok (.iconst 1, 1) := by decide +kernel
theorem dX12_whoUnlocks_29 : decode cX12_whoUnlocks 29 = .ok (.iload_n 3, 1) := by decide +kernel
theorem dX12_whoUnlocks_30 : decode cX12_whoUnlocks 30 = .ok (.ishl, 1) := by decide +kernel
