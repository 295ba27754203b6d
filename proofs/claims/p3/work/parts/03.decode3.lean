theorem dX12_putsBack_37 : decode cX12_putsBack 37 = .ok (.iaload, 1) := by decide +kernel
theorem dX12_putsBack_38 : decode cX12_putsBack 38 = .ok (.iastore, 1) := by decide +kernel
theorem dX12_putsBack_39 : decode cX12_putsBack 39 = .ok (.iinc 1 1, 3) := by decide +kernel
theorem dX12_putsBack_42 : decode cX12_putsBack 42 = .ok (.goto (-21), 3) := by decide +kernel
theorem dX12_putsBack_45 : decode cX12_putsBack 45 = .ok (.iconst 0, 1) := by decide +kernel
theorem dX12_putsBack_46 : decode cX12_putsBack 46 = .ok (.istore_n 1, 1) := by decide +kernel
theorem dX12_putsBack_47 : decode cX12_putsBack 47 = .ok (.iload_n 1, 1) := by decide +kernel
theorem dX12_putsBack_48 : decode cX12_putsBack 48 = .ok (.bipush 16, 2) := by decide +kernel
theorem dX12_putsBack_50 : decode cX12_putsBack 50 = .ok (.if_icmp .ge 33, 3) := by decide +kernel
theorem dX12_putsBack_53 : decode cX12_putsBack 53 = .ok (.aload_n 0, 1) := by decide +kernel
theorem dX12_putsBack_54 : decode cX12_putsBack 54 = .ok (.getfield 25, 3) := by decide +kernel
theorem dX12_putsBack_57 : decode cX12_putsBack 57 = .ok (.iload_n 1, 1) := by decide +kernel
theorem dX12_putsBack_58 : decode cX12_putsBack 58 = .ok (.aload_n 0, 1) := by decide +kernel
theorem dX12_putsBack_59 : decode cX12_putsBack 59 = .ok (.getfield 31, 3) := by decide +kernel
theorem dX12_putsBack_62 : decode cX12_putsBack 62 = .ok (.iload_n 1, 1) := by decide +kernel
theorem dX12_putsBack_63 : decode cX12_putsBack 63 = .ok (.iaload, 1) := by decide +kernel
theorem dX12_putsBack_64 : decode cX12_putsBack 64 = .ok (.iastore, 1) := by decide +kernel
theorem dX12_putsBack_65 : decode cX12_putsBack 65 = .ok (.aload_n 0, 1) := by decide +kernel
theorem dX12_putsBack_66 : decode cX12_putsBack 66 = .ok (.getfield 28, 3) := by decide +kernel
theorem dX12_putsBack_69 : decode cX12_putsBack 69 = .ok (.iload_n 1, 1) := by decide +kernel
theorem dX12_putsBack_70 : decode cX12_putsBack 70 = .ok (.aload_n 0, 1) := by decide +kernel
theorem dX12_putsBack_71 : decode cX12_putsBack 71 = .ok (.getfield 34, 3) := by decide +kernel
theorem dX12_putsBack_74 : decode cX12_putsBack 74 = .ok (.iload_n 1, 1) := by decide +kernel
theorem dX12_putsBack_75 : decode cX12_putsBack 75 = .ok (.iaload, 1) := by decide +kernel
theorem dX12_putsBack_76 : decode cX12_putsBack 76 = .ok (.iastore, 1) := by decide +kernel
theorem dX12_putsBack_77 : decode cX12_putsBack 77 = .ok (.iinc 1 1, 3) := by decide +kernel
theorem dX12_putsBack_80 : decode cX12_putsBack 80 = .ok (.goto (-33), 3) := by decide +kernel
theorem dX12_putsBack_83 : decode cX12_putsBack 83 = .ok (.return_, 1) := by decide +kernel
theorem dX12_orders_0 : decode cX12_orders 0 = .ok (.iload_n 1, 1) := by decide +kernel
theorem dX12_orders_1 : decode cX12_orders 1 = .ok (.iconst 1, 1) := by decide +kernel
theorem dX12_orders_2 : decode cX12_orders 2 = .ok (.bipush 120, 2) := by decide +kernel
theorem dX12_orders_4 : decode cX12_orders 4 = .ok (.invokestatic 117, 3) := by decide +kernel
theorem dX12_orders_7 : decode cX12_orders 7 = .ok (.ifCond .eq 11, 3) := by decide +kernel
theorem dX12_orders_10 : decode cX12_orders 10 = .ok (.iload_n 1, 1) := by decide +kernel
theorem dX12_orders_11 : decode cX12_orders 11 = .ok (.aload_n 0, 1) := by decide +kernel
theorem dX12_orders_12 : decode cX12_orders 12 = .ok (.getfield 152, 3) := by decide +kernel
theorem dX12_orders_15 : decode cX12_orders 15 = .ok (.if_icmp .le 5, 3) := by decide +kernel
theorem dX12_orders_18 : decode cX12_orders 18 = .ok (.iconst (-1), 1) := by decide +kernel
theorem dX12_orders_19 : decode cX12_orders 19 = .ok (.ireturn, 1) := by decide +kernel
theorem dX12_orders_20 : decode cX12_orders 20 = .ok (.aload_n 0, 1) := by decide +kernel
theorem dX12_orders_21 : decode cX12_orders 21 = .ok (.iload_n 1, 1) := by decide +kernel
theorem dX12_orders_22 : decode cX12_orders 22 = .ok (.invokevirtual 242, 3) := by decide +kernel
theorem dX12_orders_25 : decode cX12_orders 25 = .ok (.aload_n 0, 1) := by decide +kernel
theorem dX12_orders_26 : decode cX12_orders 26 = .ok (.iconst 0, 1) := by decide +kernel
theorem dX12_orders_27 : decode cX12_orders 27 = .ok (.putfield 268, 3) := by decide +kernel
theorem dX12_orders_30 : decode cX12_orders 30 = .ok (.aload_n 0, 1) := by decide +kernel
theorem dX12_orders_31 : decode cX12_orders 31 = .ok (.invokevirtual 299, 3) := by decide +kernel
theorem dX12_orders_34 : decode cX12_orders 34 = .ok (.aload_n 0, 1) := by decide +kernel
theorem dX12_orders_35 : decode cX12_orders 35 = .ok (.invokevirtual 302, 3) := by decide +kernel
theorem dX12_orders_38 : decode cX12_orders 38 = .ok (.istore_n 2, 1) := by decide +kernel
theorem dX12_orders_39 : decode cX12_orders 39 = .ok (.iload_n 2, 1) := by decide +kernel
theorem dX12_orders_40 : decode cX12_orders 40 = .ok (.ifCond .eq 39, 3) := by decide +kernel
theorem dX12_orders_43 : decode cX12_orders 43 = .ok (.aload_n 0, 1) := by decide +kernel
theorem dX12_orders_44 : decode cX12_orders 44 = .ok (.getfield 159, 3) := by decide +kernel
theorem dX12_orders_47 : decode cX12_orders 47 = .ok (.aload_n 0, 1) := by decide +kernel
theorem dX12_orders_48 : decode cX12_orders 48 = .ok (.getfield 162, 3) := by decide +kernel
theorem dX12_orders_51 : decode cX12_orders 51 = .ok (.if_icmp .ge 28, 3) := by decide +kernel
theorem dX12_orders_54 : decode cX12_orders 54 = .ok (.aload_n 0, 1) := by decide +kernel
theorem dX12_orders_55 : decode cX12_orders 55 = .ok (.bipush 59, 2) := by decide +kernel
theorem dX12_orders_57 : decode cX12_orders 57 = .ok (.invokevirtual 248, 3) := by decide +kernel
theorem dX12_orders_60 : decode cX12_orders 60 = .ok (.ifCond .eq 14, 3) := by decide +kernel
theorem dX12_orders_63 : decode cX12_orders 63 = .ok (.aload_n 0, 1) := by decide +kernel
theorem dX12_orders_64 : decode cX12_orders 64 = .ok (.invokevirtual 302, 3) := by decide +kernel
theorem dX12_orders_67 : decode cX12_orders 67 = .ok (.ifCond .eq 7, 3) := by decide +kernel
theorem dX12_orders_70 : decode cX12_orders 70 = .ok (.iconst 1, 1) := by decide +kernel
theorem dX12_orders_71 : decode cX12_orders 71 = .ok (.goto 4, 3) := by decide +kernel
theorem dX12_orders_74 : decode cX12_orders 74 = .ok (.iconst 0, 1) := by decide +kernel
theorem dX12_orders_75 : decode cX12_orders 75 = .ok (.istore_n 2, 1) := by decide +kernel
theorem dX12_orders_76 : decode cX12_orders 76 = .ok (.goto (-37), 3) := by decide +kernel
theorem dX12_orders_79 : decode cX12_orders 79 = .ok (.aload_n 0, 1) := by decide +kernel
theorem dX12_orders_80 : decode cX12_orders 80 = .ok (.iconst 0, 1) := by decide +kernel
theorem dX12_orders_81 : decode cX12_orders 81 = .ok (.putfield 152, 3) := by decide +kernel
theorem dX12_orders_84 : decode cX12_orders 84 = .ok (.iload_n 2, 1) := by decide +kernel
theorem dX12_orders_85 : decode cX12_orders 85 = .ok (.ifCond .eq 8, 3) := by decide +kernel
theorem dX12_orders_88 : decode cX12_orders 88 = .ok (.aload_n 0, 1) := by decide +kernel
theorem dX12_orders_89 : decode cX12_orders 89 = .ok (.getfield 268, 3) := by decide +kernel
theorem dX12_orders_92 : decode cX12_orders 92 = .ok (.ireturn, 1) := by decide +kernel
theorem dX12_orders_93 : decode cX12_orders 93 = .ok (.aload_n 0, 1) := by decide +kernel
theorem dX12_orders_94 : decode cX12_orders 94 = .ok (.invokevirtual 305, 3) := by decide +kernel
theorem dX12_orders_97 : decode cX12_orders 97 = .ok (.aload_n 0, 1) := by decide +kernel
theorem dX12_orders_98 : decode cX12_orders 98 = .ok (.getfield 169, 3) := by decide +kernel
theorem dX12_orders_101 : decode cX12_orders 101 = .ok (.ireturn, 1) := by decide +kernel
theorem dX12_feels_0 : decode cX12_feels 0 = .ok (.iconst 1, 1) := by decide +kernel
theorem dX12_feels_1 : decode cX12_feels 1 = .ok (.istore_n 3, 1) := by decide +kernel
theorem dX12_feels_2 : decode cX12_feels 2 = .ok (.iload_n 3, 1) := by decide +kernel
theorem dX12_feels_3 : decode cX12_feels 3 = .ok (.bipush 9, 2) := by decide +kernel
theorem dX12_feels_5 : decode cX12_feels 5 = .ok (.if_icmp .ge 16, 3) := by decide +kernel
theorem dX12_feels_8 : decode cX12_feels 8 = .ok (.aload_n 0, 1) := by decide +kernel
theorem dX12_feels_9 : decode cX12_feels 9 = .ok (.getfield 77, 3) := by decide +kernel
theorem dX12_feels_12 : decode cX12_feels 12 = .ok (.iload_n 3, 1) := by decide +kernel
theorem dX12_feels_13 : decode cX12_feels 13 = .ok (.iconst 0, 1) := by decide +kernel
theorem dX12_feels_14 : decode cX12_feels 14 = .ok (.iastore, 1) := by decide +kernel
theorem dX12_feels_15 : decode cX12_feels 15 = .ok (.iinc 3 1, 3) := by decide +kernel
theorem dX12_feels_18 : decode cX12_feels 18 = .ok (.goto (-16), 3) := by decide +kernel
theorem dX12_feels_21 : decode cX12_feels 21 = .ok (.aload_n 0, 1) := by decide +kernel
theorem dX12_feels_22 : decode cX12_feels 22 = .ok (.getfield 77, 3) := by decide +kernel
theorem dX12_feels_25 : decode cX12_feels 25 = .ok (.iconst 0, 1) := by decide +kernel
theorem dX12_feels_26 : decode cX12_feels 26 = .ok (.iload_n 1, 1) := by decide +kernel
theorem dX12_feels_27 : decode cX12_feels 27 = .ok (.iastore, 1) := by decide +kernel
theorem dX12_feels_28 : decode cX12_feels 28 = .ok (.aload_n 0, 1) := by decide +kernel
theorem dX12_feels_29 : decode cX12_feels 29 = .ok (.getfield 77, 3) := by decide +kernel
theorem dX12_feels_32 : decode cX12_feels 32 = .ok (.iconst 4, 1) := by decide +kernel
theorem dX12_feels_33 : decode cX12_feels 33 = .ok (.aload_n 0, 1) := by decide +kernel
theorem dX12_feels_34 : decode cX12_feels 34 = .ok (.iload_n 1, 1) := by decide +kernel
theorem dX12_feels_35 : decode cX12_feels 35 = .ok (.invokevirtual 135, 3) := by decide +kernel
theorem dX12_feels_38 : decode cX12_feels 38 = .ok (.iastore, 1) := by decide +kernel
theorem dX12_feels_39 : decode cX12_feels 39 = .ok (.aload_n 0, 1) := by decide +kernel
theorem dX12_feels_40 : decode cX12_feels 40 = .ok (.getfield 77, 3) := by decide +kernel
theorem dX12_feels_43 : decode cX12_feels 43 = .ok (.bipush 6, 2) := by decide +kernel
theorem dX12_feels_45 : decode cX12_feels 45 = .ok (.aload_n 0, 1) := by decide +kernel
theorem dX12_feels_46 : decode cX12_feels 46 = .ok (.getfield 19, 3) := by decide +kernel
theorem dX12_feels_49 : decode cX12_feels 49 = .ok (.iload_n 1, 1) := by decide +kernel
theorem dX12_feels_50 : decode cX12_feels 50 = .ok (.iaload, 1) := by decide +kernel
theorem dX12_feels_51 : decode cX12_feels 51 = .ok (.invokestatic 308, 3) := by decide +kernel
theorem dX12_feels_54 : decode cX12_feels 54 = .ok (.iastore, 1) := by decide +kernel
theorem dX12_feels_55 : decode cX12_feels 55 = .ok (.aload_n 0, 1) := by decide +kernel
theorem dX12_feels_56 : decode cX12_feels 56 = .ok (.getfield 77, 3) := by decide +kernel
theorem dX12_feels_59 : decode cX12_feels 59 = .ok (.bipush 8, 2) := by decide +kernel
theorem dX12_feels_61 : decode cX12_feels 61 = .ok (.aload_n 0, 1) := by decide +kernel
theorem dX12_feels_62 : decode cX12_feels 62 = .ok (.getfield 7, 3) := by decide +kernel
theorem dX12_feels_65 : decode cX12_feels 65 = .ok (.sipush 208, 3) := by decide +kernel
theorem dX12_feels_68 : decode cX12_feels 68 = .ok (.iaload, 1) := by decide +kernel
theorem dX12_feels_69 : decode cX12_feels 69 = .ok (.bipush 100, 2) := by decide +kernel
theorem dX12_feels_71 : decode cX12_feels 71 = .ok (.irem, 1) := by decide +kernel
theorem dX12_feels_72 : decode cX12_feels 72 = .ok (.iastore, 1) := by decide +kernel
theorem dX12_feels_73 : decode cX12_feels 73 = .ok (.aload_n 0, 1) := by decide +kernel
theorem dX12_feels_74 : decode cX12_feels 74 = .ok (.getfield 77, 3) := by decide +kernel
theorem dX12_feels_77 : decode cX12_feels 77 = .ok (.bipush 9, 2) := by decide +kernel
theorem dX12_feels_79 : decode cX12_feels 79 = .ok (.iload_n 2, 1) := by decide +kernel
theorem dX12_feels_80 : decode cX12_feels 80 = .ok (.iastore, 1) := by decide +kernel
theorem dX12_feels_81 : decode cX12_feels 81 = .ok (.return_, 1) := by decide +kernel
theorem dX12_feelsDoor_0 : decode cX12_feelsDoor 0 = .ok (.aload_n 0, 1) := by decide +kernel
theorem dX12_feelsDoor_1 : decode cX12_feelsDoor 1 = .ok (.iload_n 1, 1) := by decide +kernel
theorem dX12_feelsDoor_2 : decode cX12_feelsDoor 2 = .ok (.iload_n 3, 1) := by decide +kernel
theorem dX12_feelsDoor_3 : decode cX12_feelsDoor 3 = .ok (.invokevirtual 311, 3) := by decide +kernel
theorem dX12_feelsDoor_6 : decode cX12_feelsDoor 6 = .ok (.aload_n 0, 1) := by decide +kernel
theorem dX12_feelsDoor_7 : decode cX12_feelsDoor 7 = .ok (.getfield 77, 3) := by decide +kernel
theorem dX12_feelsDoor_10 : decode cX12_feelsDoor 10 = .ok (.iconst 1, 1) := by decide +kernel
theorem dX12_feelsDoor_11 : decode cX12_feelsDoor 11 = .ok (.iload_n 2, 1) := by decide +kernel
theorem dX12_feelsDoor_12 : decode cX12_feelsDoor 12 = .ok (.iastore, 1) := by decide +kernel
theorem dX12_feelsDoor_13 : decode cX12_feelsDoor 13 = .ok (.aload_n 0, 1) := by decide +kernel
theorem dX12_feelsDoor_14 : decode cX12_feelsDoor 14 = .ok (.getfield 77, 3) := by decide +kernel
theorem dX12_feelsDoor_17 : decode cX12_feelsDoor 17 = .ok (.iconst 2, 1) := by decide +kernel
theorem dX12_feelsDoor_18 : decode cX12_feelsDoor 18 = .ok (.aload_n 0, 1) := by decide +kernel
theorem dX12_feelsDoor_19 : decode cX12_feelsDoor 19 = .ok (.getfield 25, 3) := by decide +kernel
theorem dX12_feelsDoor_22 : decode cX12_feelsDoor 22 = .ok (.iload_n 2, 1) := by decide +kernel
theorem dX12_feelsDoor_23 : decode cX12_feelsDoor 23 = .ok (.iaload, 1) := by decide +kernel
theorem dX12_feelsDoor_24 : decode cX12_feelsDoor 24 = .ok (.iastore, 1) := by decide +kernel
theorem dX12_feelsDoor_25 : decode cX12_feelsDoor 25 = .ok (.aload_n 0, 1) := by decide +kernel
theorem dX12_feelsDoor_26 : decode cX12_feelsDoor 26 = .ok (.getfield 77, 3) := by decide +kernel
theorem dX12_feelsDoor_29 : decode cX12_feelsDoor 29 = .ok (.iconst 3, 1) := by decide +kernel
theorem dX12_feelsDoor_30 : decode cX12_feelsDoor 30 = .ok (.aload_n 0, 1) := by decide +kernel
theorem dX12_feelsDoor_31 : decode cX12_feelsDoor 31 = .ok (.iload_n 1, 1) := by decide +kernel
theorem dX12_feelsDoor_32 : decode cX12_feelsDoor 32 = .ok (.aload_n 0, 1) := by decide +kernel
theorem dX12_feelsDoor_33 : decode cX12_feelsDoor 33 = .ok (.getfield 25, 3) := by decide +kernel
theorem dX12_feelsDoor_36 : decode cX12_feelsDoor 36 = .ok (.iload_n 2, 1) := by decide +kernel
theorem dX12_feelsDoor_37 : decode cX12_feelsDoor 37 = .ok (.iaload, 1) := by decide +kernel
theorem dX12_feelsDoor_38 : decode cX12_feelsDoor 38 = .ok (.invokevirtual 132, 3) := by decide +kernel
theorem dX12_feelsDoor_41 : decode cX12_feelsDoor 41 = .ok (.iastore, 1) := by decide +kernel
theorem dX12_feelsDoor_42 : decode cX12_feelsDoor 42 = .ok (.aload_n 0, 1) := by decide +kernel
theorem dX12_feelsDoor_43 : decode cX12_feelsDoor 43 = .ok (.getfield 77, 3) := by decide +kernel
theorem dX12_feelsDoor_46 : decode cX12_feelsDoor 46 = .ok (.iconst 5, 1) := by decide +kernel
theorem dX12_feelsDoor_47 : decode cX12_feelsDoor 47 = .ok (.aload_n 0, 1) := by decide +kernel
theorem dX12_feelsDoor_48 : decode cX12_feelsDoor 48 = .ok (.getfield 28, 3) := by decide +kernel
theorem dX12_feelsDoor_51 : decode cX12_feelsDoor 51 = .ok (.iload_n 2, 1) := by decide +kernel
theorem dX12_feelsDoor_52 : decode cX12_feelsDoor 52 = .ok (.iaload, 1) := by decide +kernel
theorem dX12_feelsDoor_53 : decode cX12_feelsDoor 53 = .ok (.iastore, 1) := by decide +kernel
theorem dX12_feelsDoor_54 : decode cX12_feelsDoor 54 = .ok (.aload_n 0, 1) := by decide +kernel
theorem dX12_feelsDoor_55 : decode cX12_feelsDoor 55 = .ok (.getfield 77, 3) := by decide +kernel
theorem dX12_feelsDoor_58 : decode cX12_feelsDoor 58 = .ok (.bipush 7, 2) := by decide +kernel
theorem dX12_feelsDoor_60 : decode cX12_feelsDoor 60 = .ok (.aload_n 0, 1) := by decide +kernel
theorem dX12_feelsDoor_61 : decode cX12_feelsDoor 61 = .ok (.getfield 7, 3) := by decide +kernel
theorem dX12_feelsDoor_64 : decode cX12_feelsDoor 64 = .ok (.sipush 192, 3) := by decide +kernel
theorem dX12_feelsDoor_67 : decode cX12_feelsDoor 67 = .ok (.iload_n 2, 1) := by decide +kernel
theorem dX12_feelsDoor_68 : decode cX12_feelsDoor 68 = .ok (.iadd, 1) := by decide +kernel
theorem dX12_feelsDoor_69 : decode cX12_feelsDoor 69 = .ok (.iaload, 1) := by decide +kernel
theorem dX12_feelsDoor_70 : decode cX12_feelsDoor 70 = .ok (.iastore, 1) := by decide +kernel
theorem dX12_feelsDoor_71 : decode cX12_feelsDoor 71 = .ok (.return_, 1) := by decide +kernel
theorem dX12_likedMost_0 : decode cX12_likedMost 0 = .ok (.iconst (-1), 1) := by decide +kernel
theorem dX12_likedMost_1 : decode cX12_likedMost 1 = .ok (.istore_n 3, 1) := by decide +kernel
theorem dX12_likedMost_2 : decode cX12_likedMost 2 = .ok (.iconst 0, 1) := by decide +kernel
theorem dX12_likedMost_3 : decode cX12_likedMost 3 = .ok (.istore 4, 2) := by decide +kernel
theorem dX12_likedMost_5 : decode cX12_likedMost 5 = .ok (.iconst 0, 1) := by decide +kernel
theorem dX12_likedMost_6 : decode cX12_likedMost 6 = .ok (.istore 5, 2) := by decide +kernel
theorem dX12_likedMost_8 : decode cX12_likedMost 8 = .ok (.iload 5, 2) := by decide +kernel
theorem dX12_likedMost_10 : decode cX12_likedMost 10 = .ok (.bipush 16, 2) := by decide +kernel
theorem dX12_likedMost_12 : decode cX12_likedMost 12 = .ok (.if_icmp .ge 57, 3) := by decide +kernel
theorem dX12_likedMost_15 : decode cX12_likedMost 15 = .ok (.aload_n 0, 1) := by decide +kernel
theorem dX12_likedMost_16 : decode cX12_likedMost 16 = .ok (.iload 5, 2) := by decide +kernel
theorem dX12_likedMost_18 : decode cX12_likedMost 18 = .ok (.invokevirtual 142, 3) := by decide +kernel
theorem dX12_likedMost_21 : decode cX12_likedMost 21 = .ok (.ifCond .ne 6, 3) := by decide +kernel
theorem dX12_likedMost_24 : decode cX12_likedMost 24 = .ok (.goto 39, 3) := by decide +kernel
theorem dX12_likedMost_27 : decode cX12_likedMost 27 = .ok (.aload_n 0, 1) := by decide +kernel
theorem dX12_likedMost_28 : decode cX12_likedMost 28 = .ok (.iload_n 1, 1) := by decide +kernel
theorem dX12_likedMost_29 : decode cX12_likedMost 29 = .ok (.iload 5, 2) := by decide +kernel
theorem dX12_likedMost_31 : decode cX12_likedMost 31 = .ok (.iload_n 2, 1) := by decide +kernel
theorem dX12_likedMost_32 : decode cX12_likedMost 32 = .ok (.invokevirtual 314, 3) := by decide +kernel
theorem dX12_likedMost_35 : decode cX12_likedMost 35 = .ok (.aload_n 0, 1) := by decide +kernel
theorem dX12_likedMost_36 : decode cX12_likedMost 36 = .ok (.bipush 101, 2) := by decide +kernel
theorem dX12_likedMost_38 : decode cX12_likedMost 38 = .ok (.sipush 9999, 3) := by decide +kernel
theorem dX12_likedMost_41 : decode cX12_likedMost 41 = .ok (.invokevirtual 318, 3) := by decide +kernel
theorem dX12_likedMost_44 : decode cX12_likedMost 44 = .ok (.istore 6, 2) := by decide +kernel
theorem dX12_likedMost_46 : decode cX12_likedMost 46 = .ok (.iload 6, 2) := by decide +kernel
theorem dX12_likedMost_48 : decode cX12_likedMost 48 = .ok (.iload 4, 2) := by decide +kernel
theorem dX12_likedMost_50 : decode cX12_likedMost 50 = .ok (.if_icmp .gt 6, 3) := by decide +kernel
theorem dX12_likedMost_53 : decode cX12_likedMost 53 = .ok (.goto 10, 3) := by decide +kernel
theorem dX12_likedMost_56 : decode cX12_likedMost 56 = .ok (.iload 6, 2) := by decide +kernel
theorem dX12_likedMost_58 : decode cX12_likedMost 58 = .ok (.istore 4, 2) := by decide +kernel
theorem dX12_likedMost_60 : decode cX12_likedMost 60 = .ok (.iload 5, 2) := by decide +kernel
theorem dX12_likedMost_62 : decode cX12_likedMost 62 = .ok (.istore_n 3, 1) := by decide +kernel
theorem dX12_likedMost_63 : decode cX12_likedMost 63 = .ok (.iinc 5 1, 3) := by decide +kernel
theorem dX12_likedMost_66 : decode cX12_likedMost 66 = .ok (.goto (-58), 3) := by decide +kernel
theorem dX12_likedMost_69 : decode cX12_likedMost 69 = .ok (.iload_n 3, 1) := by decide +kernel
theorem dX12_likedMost_70 : decode cX12_likedMost 70 = .ok (.ireturn, 1) := by decide +kernel
theorem dX12_triesDoor_0 : decode cX12_triesDoor 0 = .ok (.aload_n 0, 1) := by decide +kernel
theorem dX12_triesDoor_1 : decode cX12_triesDoor 1 = .ok (.iload_n 1, 1) := by decide +kernel
theorem dX12_triesDoor_2 : decode cX12_triesDoor 2 = .ok (.iload_n 2, 1) := by decide +kernel
theorem dX12_triesDoor_3 : decode cX12_triesDoor 3 = .ok (.iload_n 3, 1) := by decide +kernel
theorem dX12_triesDoor_4 : decode cX12_triesDoor 4 = .ok (.invokevirtual 314, 3) := by decide +kernel
theorem dX12_triesDoor_7 : decode cX12_triesDoor 7 = .ok (.aload_n 0, 1) := by decide +kernel
theorem dX12_triesDoor_8 : decode cX12_triesDoor 8 = .ok (.bipush 99, 2) := by decide +kernel
theorem dX12_triesDoor_10 : decode cX12_triesDoor 10 = .ok (.bipush 99, 2) := by decide +kernel
theorem dX12_triesDoor_12 : decode cX12_triesDoor 12 = .ok (.invokevirtual 318, 3) := by decide +kernel
theorem dX12_triesDoor_15 : decode cX12_triesDoor 15 = .ok (.istore 4, 2) := by decide +kernel
theorem dX12_triesDoor_17 : decode cX12_triesDoor 17 = .ok (.iconst 0, 1) := by decide +kernel
theorem dX12_triesDoor_18 : decode cX12_triesDoor 18 = .ok (.bipush 16, 2) := by decide +kernel
theorem dX12_triesDoor_20 : decode cX12_triesDoor 20 = .ok (.iload_n 1, 1) := by decide +kernel
theorem dX12_triesDoor_21 : decode cX12_triesDoor 21 = .ok (.imul, 1) := by decide +kernel
theorem dX12_triesDoor_22 : decode cX12_triesDoor 22 = .ok (.iadd, 1) := by decide +kernel
theorem dX12_triesDoor_23 : decode cX12_triesDoor 23 = .ok (.aload_n 0, 1) := by decide +kernel
theorem dX12_triesDoor_24 : decode cX12_triesDoor 24 = .ok (.getfield 25, 3) := by decide +kernel
theorem dX12_triesDoor_27 : decode cX12_triesDoor 27 = .ok (.iload_n 2, 1) := by decide +kernel
theorem dX12_triesDoor_28 : decode cX12_triesDoor 28 = .ok (.iaload, 1) := by decide +kernel
theorem dX12_triesDoor_29 : decode cX12_triesDoor 29 = .ok (.iadd, 1) := by decide +kernel
theorem dX12_triesDoor_30 : decode cX12_triesDoor 30 = .ok (.istore 5, 2) := by decide +kernel
theorem dX12_triesDoor_32 : decode cX12_triesDoor 32 = .ok (.aload_n 0, 1) := by decide +kernel
theorem dX12_triesDoor_33 : decode cX12_triesDoor 33 = .ok (.iload_n 1, 1) := by decide +kernel
theorem dX12_triesDoor_34 : decode cX12_triesDoor 34 = .ok (.iload_n 2, 1) := by decide +kernel
theorem dX12_triesDoor_35 : decode cX12_triesDoor 35 = .ok (.invokevirtual 146, 3) := by decide +kernel
theorem dX12_triesDoor_38 : decode cX12_triesDoor 38 = .ok (.ifCond .eq 65, 3) := by decide +kernel
theorem dX12_triesDoor_41 : decode cX12_triesDoor 41 = .ok (.aload_n 0, 1) := by decide +kernel
theorem dX12_triesDoor_42 : decode cX12_triesDoor 42 = .ok (.getfield 7, 3) := by decide +kernel
theorem dX12_triesDoor_45 : decode cX12_triesDoor 45 = .ok (.sipush 192, 3) := by decide +kernel
theorem dX12_triesDoor_48 : decode cX12_triesDoor 48 = .ok (.iload_n 2, 1) := by decide +kernel
theorem dX12_triesDoor_49 : decode cX12_triesDoor 49 = .ok (.iadd, 1) := by decide +kernel
theorem dX12_triesDoor_50 : decode cX12_triesDoor 50 = .ok (.sipush 9999, 3) := by decide +kernel
theorem dX12_triesDoor_53 : decode cX12_triesDoor 53 = .ok (.aload_n 0, 1) := by decide +kernel
theorem dX12_triesDoor_54 : decode cX12_triesDoor 54 = .ok (.getfield 7, 3) := by decide +kernel
theorem dX12_triesDoor_57 : decode cX12_triesDoor 57 = .ok (.sipush 192, 3) := by decide +kernel
theorem dX12_triesDoor_60 : decode cX12_triesDoor 60 = .ok (.iload_n 2, 1) := by decide +kernel
theorem dX12_triesDoor_61 : decode cX12_triesDoor 61 = .ok (.iadd, 1) := by decide +kernel
theorem dX12_triesDoor_62 : decode cX12_triesDoor 62 = .ok (.iaload, 1) := by decide +kernel
theorem dX12_triesDoor_63 : decode cX12_triesDoor 63 = .ok (.iconst 1, 1) := by decide +kernel
theorem dX12_triesDoor_64 : decode cX12_triesDoor 64 = .ok (.iadd, 1) := by decide +kernel
theorem dX12_triesDoor_65 : decode cX12_triesDoor 65 = .ok (.invokestatic 110, 3) := by decide +kernel
theorem dX12_triesDoor_68 : decode cX12_triesDoor 68 = .ok (.iastore, 1) := by decide +kernel
theorem dX12_triesDoor_69 : decode cX12_triesDoor 69 = .ok (.aload_n 0, 1) := by decide +kernel
theorem dX12_triesDoor_70 : decode cX12_triesDoor 70 = .ok (.getfield 7, 3) := by decide +kernel
theorem dX12_triesDoor_73 : decode cX12_triesDoor 73 = .ok (.iload 5, 2) := by decide +kernel
theorem dX12_triesDoor_75 : decode cX12_triesDoor 75 = .ok (.iconst 0, 1) := by decide +kernel
theorem dX12_triesDoor_76 : decode cX12_triesDoor 76 = .ok (.aload_n 0, 1) := by decide +kernel
theorem dX12_triesDoor_77 : decode cX12_triesDoor 77 = .ok (.getfield 7, 3) := by decide +kernel
theorem dX12_triesDoor_80 : decode cX12_triesDoor 80 = .ok (.iload 5, 2) := by decide +kernel
theorem dX12_triesDoor_82 : decode cX12_triesDoor 82 = .ok (.iaload, 1) := by decide +kernel
theorem dX12_triesDoor_83 : decode cX12_triesDoor 83 = .ok (.iload 4, 2) := by decide +kernel
theorem dX12_triesDoor_85 : decode cX12_triesDoor 85 = .ok (.isub, 1) := by decide +kernel
theorem dX12_triesDoor_86 : decode cX12_triesDoor 86 = .ok (.invokestatic 114, 3) := by decide +kernel
theorem dX12_triesDoor_89 : decode cX12_triesDoor 89 = .ok (.iastore, 1) := by decide +kernel
theorem dX12_triesDoor_90 : decode cX12_triesDoor 90 = .ok (.aload_n 0, 1) := by decide +kernel
theorem dX12_triesDoor_91 : decode cX12_triesDoor 91 = .ok (.aload_n 0, 1) := by decide +kernel
theorem dX12_triesDoor_92 : decode cX12_triesDoor 92 = .ok (.getfield 321, 3) := by decide +kernel
theorem dX12_triesDoor_95 : decode cX12_triesDoor 95 = .ok (.iconst 1, 1) := by decide +kernel
theorem dX12_triesDoor_96 : decode cX12_triesDoor 96 = .ok (.iadd, 1) := by decide +kernel
theorem dX12_triesDoor_97 : decode cX12_triesDoor 97 = .ok (.putfield 321, 3) := by decide +kernel
theorem dX12_triesDoor_100 : decode cX12_triesDoor 100 = .ok (.goto 34, 3) := by decide +kernel
theorem dX12_triesDoor_103 : decode cX12_triesDoor 103 = .ok (.aload_n 0, 1) := by decide +kernel
theorem dX12_triesDoor_104 : decode cX12_triesDoor 104 = .ok (.getfield 7, 3) := by decide +kernel
theorem dX12_triesDoor_107 : decode cX12_triesDoor 107 = .ok (.iload 5, 2) := by decide +kernel
theorem dX12_triesDoor_109 : decode cX12_triesDoor 109 = .ok (.bipush 99, 2) := by decide +kernel
theorem dX12_triesDoor_111 : decode cX12_triesDoor 111 = .ok (.aload_n 0, 1) := by decide +kernel
theorem dX12_triesDoor_112 : decode cX12_triesDoor 112 = .ok (.getfield 7, 3) := by decide +kernel
theorem dX12_triesDoor_115 : decode cX12_triesDoor 115 = .ok (.iload 5, 2) := by decide +kernel
theorem dX12_triesDoor_117 : decode cX12_triesDoor 117 = .ok (.iaload, 1) := by decide +kernel
theorem dX12_triesDoor_118 : decode cX12_triesDoor 118 = .ok (.iconst 1, 1) := by decide +kernel
theorem dX12_triesDoor_119 : decode cX12_triesDoor 119 = .ok (.iadd, 1) := by decide +kernel
theorem dX12_triesDoor_120 : decode cX12_triesDoor 120 = .ok (.invokestatic 110, 3) := by decide +kernel
theorem dX12_triesDoor_123 : decode cX12_triesDoor 123 = .ok (.iastore, 1) := by decide +kernel
theorem dX12_triesDoor_124 : decode cX12_triesDoor 124 = .ok (.aload_n 0, 1) := by decide +kernel
theorem dX12_triesDoor_125 : decode cX12_triesDoor 125 = .ok (.aload_n 0, 1) := by decide +kernel
theorem dX12_triesDoor_126 : decode cX12_triesDoor 126 = .ok (.getfield 324, 3) := by decide +kernel
theorem dX12_triesDoor_129 : decode cX12_triesDoor 129 = .ok (.iconst 1, 1) := by decide +kernel
theorem dX12_triesDoor_130 : decode cX12_triesDoor 130 = .ok (.iadd, 1) := by decide +kernel
theorem dX12_triesDoor_131 : decode cX12_triesDoor 131 = .ok (.putfield 324, 3) := by decide +kernel
theorem dX12_triesDoor_134 : decode cX12_triesDoor 134 = .ok (.return_, 1) := by decide +kernel
theorem dX12_goesOut_0 : decode cX12_goesOut 0 = .ok (.aload_n 0, 1) := by decide +kernel
theorem dX12_goesOut_1 : decode cX12_goesOut 1 = .ok (.getfield 7, 3) := by decide +kernel
theorem dX12_goesOut_4 : decode cX12_goesOut 4 = .ok (.sipush 209, 3) := by decide +kernel
theorem dX12_goesOut_7 : decode cX12_goesOut 7 = .ok (.sipush 25173, 3) := by decide +kernel
theorem dX12_goesOut_10 : decode cX12_goesOut 10 = .ok (.aload_n 0, 1) := by decide +kernel
theorem dX12_goesOut_11 : decode cX12_goesOut 11 = .ok (.getfield 7, 3) := by decide +kernel
theorem dX12_goesOut_14 : decode cX12_goesOut 14 = .ok (.sipush 209, 3) := by decide +kernel
theorem dX12_goesOut_17 : decode cX12_goesOut 17 = .ok (.iaload, 1) := by decide +kernel
theorem dX12_goesOut_18 : decode cX12_goesOut 18 = .ok (.imul, 1) := by decide +kernel
theorem dX12_goesOut_19 : decode cX12_goesOut 19 = .ok (.sipush 13849, 3) := by decide +kernel
theorem dX12_goesOut_22 : decode cX12_goesOut 22 = .ok (.iadd, 1) := by decide +kernel
theorem dX12_goesOut_23 : decode cX12_goesOut 23 = .ok (.ldc_w 327, 3) := by decide +kernel
theorem dX12_goesOut_26 : decode cX12_goesOut 26 = .ok (.irem, 1) := by decide +kernel
theorem dX12_goesOut_27 : decode cX12_goesOut 27 = .ok (.iastore, 1) := by decide +kernel
theorem dX12_goesOut_28 : decode cX12_goesOut 28 = .ok (.aload_n 0, 1) := by decide +kernel
theorem dX12_goesOut_29 : decode cX12_goesOut 29 = .ok (.getfield 7, 3) := by decide +kernel
theorem dX12_goesOut_32 : decode cX12_goesOut 32 = .ok (.sipush 209, 3) := by decide +kernel
theorem dX12_goesOut_35 : decode cX12_goesOut 35 = .ok (.iaload, 1) := by decide +kernel
theorem dX12_goesOut_36 : decode cX12_goesOut 36 = .ok (.bipush 10, 2) := by decide +kernel
theorem dX12_goesOut_38 : decode cX12_goesOut 38 = .ok (.irem, 1) := by decide +kernel
theorem dX12_goesOut_39 : decode cX12_goesOut 39 = .ok (.istore_n 2, 1) := by decide +kernel
theorem dX12_goesOut_40 : decode cX12_goesOut 40 = .ok (.aload_n 0, 1) := by decide +kernel
theorem dX12_goesOut_41 : decode cX12_goesOut 41 = .ok (.iload_n 1, 1) := by decide +kernel
theorem dX12_goesOut_42 : decode cX12_goesOut 42 = .ok (.iload_n 2, 1) := by decide +kernel
theorem dX12_goesOut_43 : decode cX12_goesOut 43 = .ok (.invokevirtual 311, 3) := by decide +kernel
theorem dX12_goesOut_46 : decode cX12_goesOut 46 = .ok (.aload_n 0, 1) := by decide +kernel
theorem dX12_goesOut_47 : decode cX12_goesOut 47 = .ok (.bipush 120, 2) := by decide +kernel
theorem dX12_goesOut_49 : decode cX12_goesOut 49 = .ok (.invokevirtual 328, 3) := by decide +kernel
theorem dX12_goesOut_52 : decode cX12_goesOut 52 = .ok (.ifCond .eq 4, 3) := by decide +kernel
theorem dX12_goesOut_55 : decode cX12_goesOut 55 = .ok (.return_, 1) := by decide +kernel
theorem dX12_goesOut_56 : decode cX12_goesOut 56 = .ok (.aload_n 0, 1) := by decide +kernel
theorem dX12_goesOut_57 : decode cX12_goesOut 57 = .ok (.iload_n 1, 1) := by decide +kernel
theorem dX12_goesOut_58 : decode cX12_goesOut 58 = .ok (.iload_n 2, 1) := by decide +kernel
theorem dX12_goesOut_59 : decode cX12_goesOut 59 = .ok (.invokevirtual 331, 3) := by decide +kernel
theorem dX12_goesOut_62 : decode cX12_goesOut 62 = .ok (.istore_n 3, 1) := by decide +kernel
theorem dX12_goesOut_63 : decode cX12_goesOut 63 = .ok (.iload_n 3, 1) := by decide +kernel
theorem dX12_goesOut_64 : decode cX12_goesOut 64 = .ok (.iconst (-1), 1) := by decide +kernel
theorem dX12_goesOut_65 : decode cX12_goesOut 65 = .ok (.if_icmp .eq 10, 3) := by decide +kernel
theorem dX12_goesOut_68 : decode cX12_goesOut 68 = .ok (.aload_n 0, 1) := by decide +kernel
theorem dX12_goesOut_69 : decode cX12_goesOut 69 = .ok (.iload_n 1, 1) := by decide +kernel
theorem dX12_goesOut_70 : decode cX12_goesOut 70 = .ok (.iload_n 3, 1) := by decide +kernel
theorem dX12_goesOut_71 : decode cX12_goesOut 71 = .ok (.iload_n 2, 1) := by decide +kernel
theorem dX12_goesOut_72 : decode cX12_goesOut 72 = .ok (.invokevirtual 334, 3) := by decide +kernel
theorem dX12_goesOut_75 : decode cX12_goesOut 75 = .ok (.return_, 1) := by decide +kernel
theorem dX12_caughtBy_0 : decode cX12_caughtBy 0 = .ok (.aload_n 0, 1) := by decide +kernel
theorem dX12_caughtBy_1 : decode cX12_caughtBy 1 = .ok (.getfield 80, 3) := by decide +kernel
theorem dX12_caughtBy_4 : decode cX12_caughtBy 4 = .ok (.iload_n 2, 1) := by decide +kernel
theorem dX12_caughtBy_5 : decode cX12_caughtBy 5 = .ok (.iaload, 1) := by decide +kernel
theorem dX12_caughtBy_6 : decode cX12_caughtBy 6 = .ok (.iconst (-1), 1) := by decide +kernel
theorem dX12_caughtBy_7 : decode cX12_caughtBy 7 = .ok (.if_icmp .ne 5, 3) := by decide +kernel
theorem dX12_caughtBy_10 : decode cX12_caughtBy 10 = .ok (.iconst 0, 1) := by decide +kernel
theorem dX12_caughtBy_11 : decode cX12_caughtBy 11 = .ok (.ireturn, 1) := by decide +kernel
theorem dX12_caughtBy_12 : decode cX12_caughtBy 12 = .ok (.aload_n 0, 1) := by decide +kernel
theorem dX12_caughtBy_13 : decode cX12_caughtBy 13 = .ok (.iload_n 1, 1) := by decide +kernel
theorem dX12_caughtBy_14 : decode cX12_caughtBy 14 = .ok (.iconst 0, 1) := by decide +kernel
theorem dX12_caughtBy_15 : decode cX12_caughtBy 15 = .ok (.invokevirtual 311, 3) := by decide +kernel
theorem dX12_caughtBy_18 : decode cX12_caughtBy 18 = .ok (.aload_n 0, 1) := by decide +kernel
theorem dX12_caughtBy_19 : decode cX12_caughtBy 19 = .ok (.getfield 77, 3) := by decide +kernel
theorem dX12_caughtBy_22 : decode cX12_caughtBy 22 = .ok (.iconst 1, 1) := by decide +kernel
theorem dX12_caughtBy_23 : decode cX12_caughtBy 23 = .ok (.iload_n 2, 1) := by decide +kernel
theorem dX12_caughtBy_24 : decode cX12_caughtBy 24 = .ok (.iastore, 1) := by decide +kernel
theorem dX12_caughtBy_25 : decode cX12_caughtBy 25 = .ok (.aload_n 0, 1) := by decide +kernel
theorem dX12_caughtBy_26 : decode cX12_caughtBy 26 = .ok (.getfield 77, 3) := by decide +kernel
theorem dX12_caughtBy_29 : decode cX12_caughtBy 29 = .ok (.iconst 2, 1) := by decide +kernel
theorem dX12_caughtBy_30 : decode cX12_caughtBy 30 = .ok (.aload_n 0, 1) := by decide +kernel
theorem dX12_caughtBy_31 : decode cX12_caughtBy 31 = .ok (.getfield 80, 3) := by decide +kernel
theorem dX12_caughtBy_34 : decode cX12_caughtBy 34 = .ok (.iload_n 2, 1) := by decide +kernel
theorem dX12_caughtBy_35 : decode cX12_caughtBy 35 = .ok (.iaload, 1) := by decide +kernel
theorem dX12_caughtBy_36 : decode cX12_caughtBy 36 = .ok (.iastore, 1) := by decide +kernel
theorem dX12_caughtBy_37 : decode cX12_caughtBy 37 = .ok (.aload_n 0, 1) := by decide +kernel
theorem dX12_caughtBy_38 : decode cX12_caughtBy 38 = .ok (.getfield 77, 3) := by decide +kernel
theorem dX12_caughtBy_41 : decode cX12_caughtBy 41 = .ok (.iconst 3, 1) := by decide +kernel
theorem dX12_caughtBy_42 : decode cX12_caughtBy 42 = .ok (.aload_n 0, 1) := by decide +kernel
theorem dX12_caughtBy_43 : decode cX12_caughtBy 43 = .ok (.iload_n 1, 1) := by decide +kernel
theorem dX12_caughtBy_44 : decode cX12_caughtBy 44 = .ok (.aload_n 0, 1) := by decide +kernel
theorem dX12_caughtBy_45 : decode cX12_caughtBy 45 = .ok (.getfield 80, 3) := by decide +kernel
theorem dX12_caughtBy_48 : decode cX12_caughtBy 48 = .ok (.iload_n 2, 1) := by decide +kernel
theorem dX12_caughtBy_49 : decode cX12_caughtBy 49 = .ok (.iaload, 1) := by decide +kernel
theorem dX12_caughtBy_50 : decode cX12_caughtBy 50 = .ok (.invokevirtual 132, 3) := by decide +kernel
theorem dX12_caughtBy_53 : decode cX12_caughtBy 53 = .ok (.iastore, 1) := by decide +kernel
theorem dX12_caughtBy_54 : decode cX12_caughtBy 54 = .ok (.aload_n 0, 1) := by decide +kernel
theorem dX12_caughtBy_55 : decode cX12_caughtBy 55 = .ok (.bipush 115, 2) := by decide +kernel
theorem dX12_caughtBy_57 : decode cX12_caughtBy 57 = .ok (.bipush 99, 2) := by decide +kernel
theorem dX12_caughtBy_59 : decode cX12_caughtBy 59 = .ok (.invokevirtual 318, 3) := by decide +kernel
theorem dX12_caughtBy_62 : decode cX12_caughtBy 62 = .ok (.ireturn, 1) := by decide +kernel
theorem dX12_catches_0 : decode cX12_catches 0 = .ok (.iconst 0, 1) := by decide +kernel
theorem dX12_catches_1 : decode cX12_catches 1 = .ok (.istore_n 1, 1) := by decide +kernel
theorem dX12_catches_2 : decode cX12_catches 2 = .ok (.iload_n 1, 1) := by decide +kernel
theorem dX12_catches_3 : decode cX12_catches 3 = .ok (.bipush 12, 2) := by decide +kernel
theorem dX12_catches_5 : decode cX12_catches 5 = .ok (.if_icmp .ge 32, 3) := by decide +kernel
theorem dX12_catches_8 : decode cX12_catches 8 = .ok (.aload_n 0, 1) := by decide +kernel
theorem dX12_catches_9 : decode cX12_catches 9 = .ok (.getfield 80, 3) := by decide +kernel
theorem dX12_catches_12 : decode cX12_catches 12 = .ok (.iload_n 1, 1) := by decide +kernel
theorem dX12_catches_13 : decode cX12_catches 13 = .ok (.aload_n 0, 1) := by decide +kernel
theorem dX12_catches_14 : decode cX12_catches 14 = .ok (.iload_n 1, 1) := by decide +kernel
theorem dX12_catches_15 : decode cX12_catches 15 = .ok (.invokevirtual 149, 3) := by decide +kernel
theorem dX12_catches_18 : decode cX12_catches 18 = .ok (.ifCond .eq 11, 3) := by decide +kernel
theorem dX12_catches_21 : decode cX12_catches 21 = .ok (.aload_n 0, 1) := by decide +kernel
theorem dX12_catches_22 : decode cX12_catches 22 = .ok (.iload_n 1, 1) := by decide +kernel
theorem dX12_catches_23 : decode cX12_catches 23 = .ok (.invokevirtual 139, 3) := by decide +kernel
theorem dX12_catches_26 : decode cX12_catches 26 = .ok (.goto 4, 3) := by decide +kernel
theorem dX12_catches_29 : decode cX12_catches 29 = .ok (.iconst (-1), 1) := by decide +kernel
theorem dX12_catches_30 : decode cX12_catches 30 = .ok (.iastore, 1) := by decide +kernel
theorem dX12_catches_31 : decode cX12_catches 31 = .ok (.iinc 1 1, 3) := by decide +kernel
theorem dX12_catches_34 : decode cX12_catches 34 = .ok (.goto (-32), 3) := by decide +kernel
theorem dX12_catches_37 : decode cX12_catches 37 = .ok (.iconst 0, 1) := by decide +kernel
theorem dX12_catches_38 : decode cX12_catches 38 = .ok (.istore_n 1, 1) := by decide +kernel
theorem dX12_catches_39 : decode cX12_catches 39 = .ok (.iload_n 1, 1) := by decide +kernel
theorem dX12_catches_40 : decode cX12_catches 40 = .ok (.sipush 144, 3) := by decide +kernel
theorem dX12_catches_43 : decode cX12_catches 43 = .ok (.if_icmp .ge 46, 3) := by decide +kernel
theorem dX12_catches_46 : decode cX12_catches 46 = .ok (.aload_n 0, 1) := by decide +kernel
theorem dX12_catches_47 : decode cX12_catches 47 = .ok (.getfield 19, 3) := by decide +kernel
theorem dX12_catches_50 : decode cX12_catches 50 = .ok (.iload_n 1, 1) := by decide +kernel
theorem dX12_catches_51 : decode cX12_catches 51 = .ok (.bipush 12, 2) := by decide +kernel
theorem dX12_catches_53 : decode cX12_catches 53 = .ok (.idiv, 1) := by decide +kernel
theorem dX12_catches_54 : decode cX12_catches 54 = .ok (.iaload, 1) := by decide +kernel
theorem dX12_catches_55 : decode cX12_catches 55 = .ok (.iload_n 1, 1) := by decide +kernel
theorem dX12_catches_56 : decode cX12_catches 56 = .ok (.bipush 12, 2) := by decide +kernel
theorem dX12_catches_58 : decode cX12_catches 58 = .ok (.irem, 1) := by decide +kernel
theorem dX12_catches_59 : decode cX12_catches 59 = .ok (.invokestatic 125, 3) := by decide +kernel
theorem dX12_catches_62 : decode cX12_catches 62 = .ok (.ifCond .eq 21, 3) := by decide +kernel
theorem dX12_catches_65 : decode cX12_catches 65 = .ok (.aload_n 0, 1) := by decide +kernel
theorem dX12_catches_66 : decode cX12_catches 66 = .ok (.getfield 83, 3) := by decide +kernel
theorem dX12_catches_69 : decode cX12_catches 69 = .ok (.iload_n 1, 1) := by decide +kernel
theorem dX12_catches_70 : decode cX12_catches 70 = .ok (.aload_n 0, 1) := by decide +kernel
theorem dX12_catches_71 : decode cX12_catches 71 = .ok (.iload_n 1, 1) := by decide +kernel
theorem dX12_catches_72 : decode cX12_catches 72 = .ok (.bipush 12, 2) := by decide +kernel
theorem dX12_catches_74 : decode cX12_catches 74 = .ok (.idiv, 1) := by decide +kernel
theorem dX12_catches_75 : decode cX12_catches 75 = .ok (.iload_n 1, 1) := by decide +kernel
theorem dX12_catches_76 : decode cX12_catches 76 = .ok (.bipush 12, 2) := by decide +kernel
theorem dX12_catches_78 : decode cX12_catches 78 = .ok (.irem, 1) := by decide +kernel
theorem dX12_catches_79 : decode cX12_catches 79 = .ok (.invokevirtual 337, 3) := by decide +kernel
theorem dX12_catches_82 : decode cX12_catches 82 = .ok (.iastore, 1) := by decide +kernel
theorem dX12_catches_83 : decode cX12_catches 83 = .ok (.iinc 1 1, 3) := by decide +kernel
theorem dX12_catches_86 : decode cX12_catches 86 = .ok (.goto (-47), 3) := by decide +kernel
theorem dX12_catches_89 : decode cX12_catches 89 = .ok (.iconst 0, 1) := by decide +kernel
theorem dX12_catches_90 : decode cX12_catches 90 = .ok (.istore_n 1, 1) := by decide +kernel
theorem dX12_catches_91 : decode cX12_catches 91 = .ok (.iload_n 1, 1) := by decide +kernel
theorem dX12_catches_92 : decode cX12_catches 92 = .ok (.sipush 144, 3) := by decide +kernel
theorem dX12_catches_95 : decode cX12_catches 95 = .ok (.if_icmp .ge 86, 3) := by decide +kernel
theorem dX12_catches_98 : decode cX12_catches 98 = .ok (.iload_n 1, 1) := by decide +kernel
theorem dX12_catches_99 : decode cX12_catches 99 = .ok (.bipush 12, 2) := by decide +kernel
theorem dX12_catches_101 : decode cX12_catches 101 = .ok (.idiv, 1) := by decide +kernel
theorem dX12_catches_102 : decode cX12_catches 102 = .ok (.istore_n 2, 1) := by decide +kernel
theorem dX12_catches_103 : decode cX12_catches 103 = .ok (.iload_n 1, 1) := by decide +kernel
theorem dX12_catches_104 : decode cX12_catches 104 = .ok (.bipush 12, 2) := by decide +kernel
theorem dX12_catches_106 : decode cX12_catches 106 = .ok (.irem, 1) := by decide +kernel
theorem dX12_catches_107 : decode cX12_catches 107 = .ok (.istore_n 3, 1) := by decide +kernel
theorem dX12_catches_108 : decode cX12_catches 108 = .ok (.aload_n 0, 1) := by decide +kernel
theorem dX12_catches_109 : decode cX12_catches 109 = .ok (.getfield 19, 3) := by decide +kernel
theorem dX12_catches_112 : decode cX12_catches 112 = .ok (.iload_n 2, 1) := by decide +kernel
theorem dX12_catches_113 : decode cX12_catches 113 = .ok (.iaload, 1) := by decide +kernel
theorem dX12_catches_114 : decode cX12_catches 114 = .ok (.iload_n 3, 1) := by decide +kernel
theorem dX12_catches_115 : decode cX12_catches 115 = .ok (.invokestatic 125, 3) := by decide +kernel
theorem dX12_catches_118 : decode cX12_catches 118 = .ok (.ifCond .eq 57, 3) := by decide +kernel
theorem dX12_catches_121 : decode cX12_catches 121 = .ok (.aload_n 0, 1) := by decide +kernel
theorem dX12_catches_122 : decode cX12_catches 122 = .ok (.getfield 80, 3) := by decide +kernel
theorem dX12_catches_125 : decode cX12_catches 125 = .ok (.iload_n 3, 1) := by decide +kernel
theorem dX12_catches_126 : decode cX12_catches 126 = .ok (.iaload, 1) := by decide +kernel
theorem dX12_catches_127 : decode cX12_catches 127 = .ok (.iconst (-1), 1) := by decide +kernel
theorem dX12_catches_128 : decode cX12_catches 128 = .ok (.if_icmp .ne 6, 3) := by decide +kernel
theorem dX12_catches_131 : decode cX12_catches 131 = .ok (.goto 44, 3) := by decide +kernel
theorem dX12_catches_134 : decode cX12_catches 134 = .ok (.iconst 0, 1) := by decide +kernel
theorem dX12_catches_135 : decode cX12_catches 135 = .ok (.bipush 16, 2) := by decide +kernel
theorem dX12_catches_137 : decode cX12_catches 137 = .ok (.iload_n 2, 1) := by decide +kernel
theorem dX12_catches_138 : decode cX12_catches 138 = .ok (.imul, 1) := by decide +kernel
theorem dX12_catches_139 : decode cX12_catches 139 = .ok (.iadd, 1) := by decide +kernel
theorem dX12_catches_140 : decode cX12_catches 140 = .ok (.aload_n 0, 1) := by decide +kernel
theorem dX12_catches_141 : decode cX12_catches 141 = .ok (.getfield 80, 3) := by decide +kernel
theorem dX12_catches_144 : decode cX12_catches 144 = .ok (.iload_n 3, 1) := by decide +kernel
theorem dX12_catches_145 : decode cX12_catches 145 = .ok (.iaload, 1) := by decide +kernel
theorem dX12_catches_146 : decode cX12_catches 146 = .ok (.iadd, 1) := by decide +kernel
theorem dX12_catches_147 : decode cX12_catches 147 = .ok (.istore 4, 2) := by decide +kernel
theorem dX12_catches_149 : decode cX12_catches 149 = .ok (.aload_n 0, 1) := by decide +kernel
theorem dX12_catches_150 : decode cX12_catches 150 = .ok (.getfield 7, 3) := by decide +kernel
theorem dX12_catches_153 : decode cX12_catches 153 = .ok (.iload 4, 2) := by decide +kernel
theorem dX12_catches_155 : decode cX12_catches 155 = .ok (.bipush 99, 2) := by decide +kernel
theorem dX12_catches_157 : decode cX12_catches 157 = .ok (.aload_n 0, 1) := by decide +kernel
theorem dX12_catches_158 : decode cX12_catches 158 = .ok (.getfield 7, 3) := by decide +kernel
theorem dX12_catches_161 : decode cX12_catches 161 = .ok (.iload 4, 2) := by decide +kernel
theorem dX12_catches_163 : decode cX12_catches 163 = .ok (.iaload, 1) := by decide +kernel
theorem dX12_catches_164 : decode cX12_catches 164 = .ok (.aload_n 0, 1) := by decide +kernel
theorem dX12_catches_165 : decode cX12_catches 165 = .ok (.getfield 83, 3) := by decide +kernel
theorem dX12_catches_168 : decode cX12_catches 168 = .ok (.iload_n 1, 1) := by decide +kernel
theorem dX12_catches_169 : decode cX12_catches 169 = .ok (.iaload, 1) := by decide +kernel
theorem dX12_catches_170 : decode cX12_catches 170 = .ok (.iadd, 1) := by decide +kernel
theorem dX12_catches_171 : decode cX12_catches 171 = .ok (.invokestatic 110, 3) := by decide +kernel
theorem dX12_catches_174 : decode cX12_catches 174 = .ok (.iastore, 1) := by decide +kernel
theorem dX12_catches_175 : decode cX12_catches 175 = .ok (.iinc 1 1, 3) := by decide +kernel
theorem dX12_catches_178 : decode cX12_catches 178 = .ok (.goto (-87), 3) := by decide +kernel
theorem dX12_catches_181 : decode cX12_catches 181 = .ok (.return_, 1) := by decide +kernel
theorem dX12_nightGoes_0 : decode cX12_nightGoes 0 = .ok (.iconst 0, 1) := by decide +kernel
theorem dX12_nightGoes_1 : decode cX12_nightGoes 1 = .ok (.istore_n 1, 1) := by decide +kernel
theorem dX12_nightGoes_2 : decode cX12_nightGoes 2 = .ok (.iload_n 1, 1) := by decide +kernel
theorem dX12_nightGoes_3 : decode cX12_nightGoes 3 = .ok (.bipush 12, 2) := by decide +kernel
theorem dX12_nightGoes_5 : decode cX12_nightGoes 5 = .ok (.if_icmp .ge 22, 3) := by decide +kernel
theorem dX12_nightGoes_8 : decode cX12_nightGoes 8 = .ok (.aload_n 0, 1) := by decide +kernel
theorem dX12_nightGoes_9 : decode cX12_nightGoes 9 = .ok (.iload_n 1, 1) := by decide +kernel
theorem dX12_nightGoes_10 : decode cX12_nightGoes 10 = .ok (.invokevirtual 149, 3) := by decide +kernel
theorem dX12_nightGoes_13 : decode cX12_nightGoes 13 = .ok (.ifCond .eq 8, 3) := by decide +kernel
theorem dX12_nightGoes_16 : decode cX12_nightGoes 16 = .ok (.aload_n 0, 1) := by decide +kernel
theorem dX12_nightGoes_17 : decode cX12_nightGoes 17 = .ok (.iload_n 1, 1) := by decide +kernel
theorem dX12_nightGoes_18 : decode cX12_nightGoes 18 = .ok (.invokevirtual 340, 3) := by decide +kernel
theorem dX12_nightGoes_21 : decode cX12_nightGoes 21 = .ok (.iinc 1 1, 3) := by decide +kernel
theorem dX12_nightGoes_24 : decode cX12_nightGoes 24 = .ok (.goto (-22), 3) := by decide +kernel
theorem dX12_nightGoes_27 : decode cX12_nightGoes 27 = .ok (.aload_n 0, 1) := by decide +kernel
theorem dX12_nightGoes_28 : decode cX12_nightGoes 28 = .ok (.invokevirtual 343, 3) := by decide +kernel
theorem dX12_nightGoes_31 : decode cX12_nightGoes 31 = .ok (.aload_n 0, 1) := by decide +kernel
theorem dX12_nightGoes_32 : decode cX12_nightGoes 32 = .ok (.getfield 7, 3) := by decide +kernel
theorem dX12_nightGoes_35 : decode cX12_nightGoes 35 = .ok (.sipush 208, 3) := by decide +kernel
theorem dX12_nightGoes_38 : decode cX12_nightGoes 38 = .ok (.aload_n 0, 1) := by decide +kernel
theorem dX12_nightGoes_39 : decode cX12_nightGoes 39 = .ok (.getfield 7, 3) := by decide +kernel
theorem dX12_nightGoes_42 : decode cX12_nightGoes 42 = .ok (.sipush 208, 3) := by decide +kernel
theorem dX12_nightGoes_45 : decode cX12_nightGoes 45 = .ok (.iaload, 1) := by decide +kernel
theorem dX12_nightGoes_46 : decode cX12_nightGoes 46 = .ok (.iconst 1, 1) := by decide +kernel
theorem dX12_nightGoes_47 : decode cX12_nightGoes 47 = .ok (.iadd, 1) := by decide +kernel
theorem dX12_nightGoes_48 : decode cX12_nightGoes 48 = .ok (.iastore, 1) := by decide +kernel
theorem dX12_nightGoes_49 : decode cX12_nightGoes 49 = .ok (.return_, 1) := by decide +kernel
theorem dX12_nightsGo_0 : decode cX12_nightsGo 0 = .ok (.aload_n 0, 1) := by decide +kernel
theorem dX12_nightsGo_1 : decode cX12_nightsGo 1 = .ok (.iconst 0, 1) := by decide +kernel
theorem dX12_nightsGo_2 : decode cX12_nightsGo 2 = .ok (.putfield 321, 3) := by decide +kernel
theorem dX12_nightsGo_5 : decode cX12_nightsGo 5 = .ok (.aload_n 0, 1) := by decide +kernel
theorem dX12_nightsGo_6 : decode cX12_nightsGo 6 = .ok (.iconst 0, 1) := by decide +kernel
theorem dX12_nightsGo_7 : decode cX12_nightsGo 7 = .ok (.putfield 324, 3) := by decide +kernel
theorem dX12_nightsGo_10 : decode cX12_nightsGo 10 = .ok (.iconst 0, 1) := by decide +kernel
theorem dX12_nightsGo_11 : decode cX12_nightsGo 11 = .ok (.istore_n 2, 1) := by decide +kernel
theorem dX12_nightsGo_12 : decode cX12_nightsGo 12 = .ok (.iload_n 2, 1) := by decide +kernel
theorem dX12_nightsGo_13 : decode cX12_nightsGo 13 = .ok (.iload_n 1, 1) := by decide +kernel
theorem dX12_nightsGo_14 : decode cX12_nightsGo 14 = .ok (.if_icmp .ge 27, 3) := by decide +kernel
theorem dX12_nightsGo_17 : decode cX12_nightsGo 17 = .ok (.aload_n 0, 1) := by decide +kernel
theorem dX12_nightsGo_18 : decode cX12_nightsGo 18 = .ok (.getfield 7, 3) := by decide +kernel
theorem dX12_nightsGo_21 : decode cX12_nightsGo 21 = .ok (.sipush 208, 3) := by decide +kernel
theorem dX12_nightsGo_24 : decode cX12_nightsGo 24 = .ok (.iaload, 1) := by decide +kernel
theorem dX12_nightsGo_25 : decode cX12_nightsGo 25 = .ok (.sipush 9999, 3) := by decide +kernel
theorem dX12_nightsGo_28 : decode cX12_nightsGo 28 = .ok (.if_icmp .ge 13, 3) := by decide +kernel
theorem dX12_nightsGo_31 : decode cX12_nightsGo 31 = .ok (.aload_n 0, 1) := by decide +kernel
theorem dX12_nightsGo_32 : decode cX12_nightsGo 32 = .ok (.invokevirtual 346, 3) := by decide +kernel
theorem dX12_nightsGo_35 : decode cX12_nightsGo 35 = .ok (.iinc 2 1, 3) := by decide +kernel
theorem dX12_nightsGo_38 : decode cX12_nightsGo 38 = .ok (.goto (-26), 3) := by decide +kernel
theorem dX12_nightsGo_41 : decode cX12_nightsGo 41 = .ok (.return_, 1) := by decide +kernel
theorem dX12_nights_0 : decode cX12_nights 0 = .ok (.iload_n 1, 1) := by decide +kernel
theorem dX12_nights_1 : decode cX12_nights 1 = .ok (.iconst 1, 1) := by decide +kernel
theorem dX12_nights_2 : decode cX12_nights 2 = .ok (.bipush 100, 2) := by decide +kernel
theorem dX12_nights_4 : decode cX12_nights 4 = .ok (.invokestatic 117, 3) := by decide +kernel
theorem dX12_nights_7 : decode cX12_nights 7 = .ok (.ifCond .ne 5, 3) := by decide +kernel
theorem dX12_nights_10 : decode cX12_nights 10 = .ok (.iconst (-1), 1) := by decide +kernel
theorem dX12_nights_11 : decode cX12_nights 11 = .ok (.ireturn, 1) := by decide +kernel
theorem dX12_nights_12 : decode cX12_nights 12 = .ok (.aload_n 0, 1) := by decide +kernel
theorem dX12_nights_13 : decode cX12_nights 13 = .ok (.iload_n 1, 1) := by decide +kernel
theorem dX12_nights_14 : decode cX12_nights 14 = .ok (.invokevirtual 349, 3) := by decide +kernel
theorem dX12_nights_17 : decode cX12_nights 17 = .ok (.aload_n 0, 1) := by decide +kernel
theorem dX12_nights_18 : decode cX12_nights 18 = .ok (.getfield 321, 3) := by decide +kernel
theorem dX12_nights_21 : decode cX12_nights 21 = .ok (.ireturn, 1) := by decide +kernel
theorem dX12_orNone_0 : decode cX12_orNone 0 = .ok (.iload_n 0, 1) := by decide +kernel
theorem dX12_orNone_1 : decode cX12_orNone 1 = .ok (.iconst (-1), 1) := by decide +kernel
theorem dX12_orNone_2 : decode cX12_orNone 2 = .ok (.if_icmp .ne 8, 3) := by decide +kernel
theorem dX12_orNone_5 : decode cX12_orNone 5 = .ok (.bipush (-2), 2) := by decide +kernel
theorem dX12_orNone_7 : decode cX12_orNone 7 = .ok (.goto 4, 3) := by decide +kernel
theorem dX12_orNone_10 : decode cX12_orNone 10 = .ok (.iload_n 0, 1) := by decide +kernel
theorem dX12_orNone_11 : decode cX12_orNone 11 = .ok (.ireturn, 1) := by decide +kernel
theorem dX12_tried_0 : decode cX12_tried 0 = .ok (.iload_n 1, 1) := by decide +kernel
theorem dX12_tried_1 : decode cX12_tried 1 = .ok (.iconst 1, 1) := by decide +kernel
theorem dX12_tried_2 : decode cX12_tried 2 = .ok (.bipush 100, 2) := by decide +kernel
theorem dX12_tried_4 : decode cX12_tried 4 = .ok (.invokestatic 117, 3) := by decide +kernel
theorem dX12_tried_7 : decode cX12_tried 7 = .ok (.ifCond .eq 45, 3) := by decide +kernel
theorem dX12_tried_10 : decode cX12_tried 10 = .ok (.iload_n 2, 1) := by decide +kernel
theorem dX12_tried_11 : decode cX12_tried 11 = .ok (.iconst 0, 1) := by decide +kernel
theorem dX12_tried_12 : decode cX12_tried 12 = .ok (.iconst 1, 1) := by decide +kernel
theorem dX12_tried_13 : decode cX12_tried 13 = .ok (.invokestatic 117, 3) := by decide +kernel
theorem dX12_tried_16 : decode cX12_tried 16 = .ok (.ifCond .ne 38, 3) := by decide +kernel
theorem dX12_tried_19 : decode cX12_tried 19 = .ok (.aload_n 0, 1) := by decide +kernel
theorem dX12_tried_20 : decode cX12_tried 20 = .ok (.iload_n 2, 1) := by decide +kernel
theorem dX12_tried_21 : decode cX12_tried 21 = .ok (.bipush 10, 2) := by decide +kernel
theorem dX12_tried_23 : decode cX12_tried 23 = .ok (.isub, 1) := by decide +kernel
theorem dX12_tried_24 : decode cX12_tried 24 = .ok (.invokevirtual 149, 3) := by decide +kernel
theorem dX12_tried_27 : decode cX12_tried 27 = .ok (.ifCond .ne 27, 3) := by decide +kernel
theorem dX12_tried_30 : decode cX12_tried 30 = .ok (.aload_n 0, 1) := by decide +kernel
theorem dX12_tried_31 : decode cX12_tried 31 = .ok (.iload_n 2, 1) := by decide +kernel
theorem dX12_tried_32 : decode cX12_tried 32 = .ok (.bipush 30, 2) := by decide +kernel
theorem dX12_tried_34 : decode cX12_tried 34 = .ok (.isub, 1) := by decide +kernel
theorem dX12_tried_35 : decode cX12_tried 35 = .ok (.invokevirtual 149, 3) := by decide +kernel
theorem dX12_tried_38 : decode cX12_tried 38 = .ok (.ifCond .ne 16, 3) := by decide +kernel
theorem dX12_tried_41 : decode cX12_tried 41 = .ok (.aload_n 0, 1) := by decide +kernel
theorem dX12_tried_42 : decode cX12_tried 42 = .ok (.iload_n 2, 1) := by decide +kernel
theorem dX12_tried_43 : decode cX12_tried 43 = .ok (.bipush 50, 2) := by decide +kernel
theorem dX12_tried_45 : decode cX12_tried 45 = .ok (.isub, 1) := by decide +kernel
theorem dX12_tried_46 : decode cX12_tried 46 = .ok (.invokevirtual 142, 3) := by decide +kernel
theorem dX12_tried_49 : decode cX12_tried 49 = .ok (.ifCond .ne 5, 3) := by decide +kernel
theorem dX12_tried_52 : decode cX12_tried 52 = .ok (.iconst (-1), 1) := by decide +kernel
theorem dX12_tried_53 : decode cX12_tried 53 = .ok (.ireturn, 1) := by decide +kernel
theorem dX12_tried_54 : decode cX12_tried 54 = .ok (.aload_n 0, 1) := by decide +kernel
theorem dX12_tried_55 : decode cX12_tried 55 = .ok (.getfield 7, 3) := by decide +kernel
theorem dX12_tried_58 : decode cX12_tried 58 = .ok (.aload_n 0, 1) := by decide +kernel
theorem dX12_tried_59 : decode cX12_tried 59 = .ok (.getfield 13, 3) := by decide +kernel
theorem dX12_tried_62 : decode cX12_tried 62 = .ok (.invokestatic 280, 3) := by decide +kernel
theorem dX12_tried_65 : decode cX12_tried 65 = .ok (.aload_n 0, 1) := by decide +kernel
theorem dX12_tried_66 : decode cX12_tried 66 = .ok (.iload_n 1, 1) := by decide +kernel
theorem dX12_tried_67 : decode cX12_tried 67 = .ok (.invokevirtual 349, 3) := by decide +kernel
theorem dX12_tried_70 : decode cX12_tried 70 = .ok (.iload_n 2, 1) := by decide +kernel
theorem dX12_tried_71 : decode cX12_tried 71 = .ok (.lookupswitch 41 #[(0, 25), (1, 33)], 25) := by decide +kernel
theorem dX12_tried_96 : decode cX12_tried 96 = .ok (.aload_n 0, 1) := by decide +kernel
theorem dX12_tried_97 : decode cX12_tried 97 = .ok (.getfield 321, 3) := by decide +kernel
theorem dX12_tried_100 : decode cX12_tried 100 = .ok (.istore_n 3, 1) := by decide +kernel
theorem dX12_tried_101 : decode cX12_tried 101 = .ok (.goto 62, 3) := by decide +kernel
theorem dX12_tried_104 : decode cX12_tried 104 = .ok (.aload_n 0, 1) := by decide +kernel
theorem dX12_tried_105 : decode cX12_tried 105 = .ok (.getfield 324, 3) := by decide +kernel
theorem dX12_tried_108 : decode cX12_tried 108 = .ok (.istore_n 3, 1) := by decide +kernel
theorem dX12_tried_109 : decode cX12_tried 109 = .ok (.goto 54, 3) := by decide +kernel
theorem dX12_tried_112 : decode cX12_tried 112 = .ok (.iload_n 2, 1) := by decide +kernel
theorem dX12_tried_113 : decode cX12_tried 113 = .ok (.bipush 30, 2) := by decide +kernel
theorem dX12_tried_115 : decode cX12_tried 115 = .ok (.if_icmp .ge 17, 3) := by decide +kernel
theorem dX12_tried_118 : decode cX12_tried 118 = .ok (.aload_n 0, 1) := by decide +kernel
theorem dX12_tried_119 : decode cX12_tried 119 = .ok (.iload_n 2, 1) := by decide +kernel
theorem dX12_tried_120 : decode cX12_tried 120 = .ok (.bipush 10, 2) := by decide +kernel
theorem dX12_tried_122 : decode cX12_tried 122 = .ok (.isub, 1) := by decide +kernel
theorem dX12_tried_123 : decode cX12_tried 123 = .ok (.invokevirtual 139, 3) := by decide +kernel
theorem dX12_tried_126 : decode cX12_tried 126 = .ok (.invokestatic 352, 3) := by decide +kernel
theorem dX12_tried_129 : decode cX12_tried 129 = .ok (.goto 33, 3) := by decide +kernel
theorem dX12_tried_132 : decode cX12_tried 132 = .ok (.iload_n 2, 1) := by decide +kernel
theorem dX12_tried_133 : decode cX12_tried 133 = .ok (.bipush 50, 2) := by decide +kernel
theorem dX12_tried_135 : decode cX12_tried 135 = .ok (.if_icmp .ge 14, 3) := by decide +kernel
theorem dX12_tried_138 : decode cX12_tried 138 = .ok (.aload_n 0, 1) := by decide +kernel
theorem dX12_tried_139 : decode cX12_tried 139 = .ok (.iload_n 2, 1) := by decide +kernel
theorem dX12_tried_140 : decode cX12_tried 140 = .ok (.bipush 30, 2) := by decide +kernel
theorem dX12_tried_142 : decode cX12_tried 142 = .ok (.isub, 1) := by decide +kernel
theorem dX12_tried_143 : decode cX12_tried 143 = .ok (.invokevirtual 135, 3) := by decide +kernel
theorem dX12_tried_146 : decode cX12_tried 146 = .ok (.goto 16, 3) := by decide +kernel
theorem dX12_tried_149 : decode cX12_tried 149 = .ok (.aload_n 0, 1) := by decide +kernel
theorem dX12_tried_150 : decode cX12_tried 150 = .ok (.getfield 7, 3) := by decide +kernel
theorem dX12_tried_153 : decode cX12_tried 153 = .ok (.sipush 192, 3) := by decide +kernel
theorem dX12_tried_156 : decode cX12_tried 156 = .ok (.iload_n 2, 1) := by decide +kernel
theorem dX12_tried_157 : decode cX12_tried 157 = .ok (.iadd, 1) := by decide +kernel
theorem dX12_tried_158 : decode cX12_tried 158 = .ok (.bipush 50, 2) := by decide +kernel
theorem dX12_tried_160 : decode cX12_tried 160 = .ok (.isub, 1) := by decide +kernel
theorem dX12_tried_161 : decode cX12_tried 161 = .ok (.iaload, 1) := by decide +kernel
theorem dX12_tried_162 : decode cX12_tried 162 = .ok (.istore_n 3, 1) := by decide +kernel
theorem dX12_tried_163 : decode cX12_tried 163 = .ok (.aload_n 0, 1) := by decide +kernel
theorem dX12_tried_164 : decode cX12_tried 164 = .ok (.getfield 13, 3) := by decide +kernel
theorem dX12_tried_167 : decode cX12_tried 167 = .ok (.aload_n 0, 1) := by decide +kernel
theorem dX12_tried_168 : decode cX12_tried 168 = .ok (.getfield 7, 3) := by decide +kernel
theorem dX12_tried_171 : decode cX12_tried 171 = .ok (.invokestatic 280, 3) := by decide +kernel
theorem dX12_tried_174 : decode cX12_tried 174 = .ok (.iload_n 3, 1) := by decide +kernel
theorem dX12_tried_175 : decode cX12_tried 175 = .ok (.ireturn, 1) := by decide +kernel
theorem dX12_dreadSum_0 : decode cX12_dreadSum 0 = .ok (.iconst 0, 1) := by decide +kernel
theorem dX12_dreadSum_1 : decode cX12_dreadSum 1 = .ok (.istore_n 2, 1) := by decide +kernel
theorem dX12_dreadSum_2 : decode cX12_dreadSum 2 = .ok (.iconst 0, 1) := by decide +kernel
theorem dX12_dreadSum_3 : decode cX12_dreadSum 3 = .ok (.istore_n 3, 1) := by decide +kernel
theorem dX12_dreadSum_4 : decode cX12_dreadSum 4 = .ok (.iload_n 3, 1) := by decide +kernel
theorem dX12_dreadSum_5 : decode cX12_dreadSum 5 = .ok (.bipush 16, 2) := by decide +kernel
theorem dX12_dreadSum_7 : decode cX12_dreadSum 7 = .ok (.if_icmp .ge 18, 3) := by decide +kernel
theorem dX12_dreadSum_10 : decode cX12_dreadSum 10 = .ok (.iload_n 2, 1) := by decide +kernel
theorem dX12_dreadSum_11 : decode cX12_dreadSum 11 = .ok (.aload_n 0, 1) := by decide +kernel
theorem dX12_dreadSum_12 : decode cX12_dreadSum 12 = .ok (.iload_n 1, 1) := by decide +kernel
theorem dX12_dreadSum_13 : decode cX12_dreadSum 13 = .ok (.iload_n 3, 1) := by decide +kernel
theorem dX12_dreadSum_14 : decode cX12_dreadSum 14 = .ok (.invokevirtual 132, 3) := by decide +kernel
theorem dX12_dreadSum_17 : decode cX12_dreadSum 17 = .ok (.iadd, 1) := by decide +kernel
theorem dX12_dreadSum_18 : decode cX12_dreadSum 18 = .ok (.istore_n 2, 1) := by decide +kernel
theorem dX12_dreadSum_19 : decode cX12_dreadSum 19 = .ok (.iinc 3 1, 3) := by decide +kernel
theorem dX12_dreadSum_22 : decode cX12_dreadSum 22 = .ok (.goto (-18), 3) := by decide +kernel
theorem dX12_dreadSum_25 : decode cX12_dreadSum 25 = .ok (.iload_n 2, 1) := by decide +kernel
theorem dX12_dreadSum_26 : decode cX12_dreadSum 26 = .ok (.ireturn, 1) := by decide +kernel
theorem dX12_personIs_0 : decode cX12_personIs 0 = .ok (.aload_n 0, 1) := by decide +kernel
theorem dX12_personIs_1 : decode cX12_personIs 1 = .ok (.iload_n 1, 1) := by decide +kernel
theorem dX12_personIs_2 : decode cX12_personIs 2 = .ok (.invokevirtual 149, 3) := by decide +kernel
theorem dX12_personIs_5 : decode cX12_personIs 5 = .ok (.ifCond .ne 5, 3) := by decide +kernel
theorem dX12_personIs_8 : decode cX12_personIs 8 = .ok (.iconst (-1), 1) := by decide +kernel
theorem dX12_personIs_9 : decode cX12_personIs 9 = .ok (.ireturn, 1) := by decide +kernel
theorem dX12_personIs_10 : decode cX12_personIs 10 = .ok (.iload_n 2, 1) := by decide +kernel
theorem dX12_personIs_11 : decode cX12_personIs 11 = .ok (.iconst 0, 1) := by decide +kernel
theorem dX12_personIs_12 : decode cX12_personIs 12 = .ok (.bipush 15, 2) := by decide +kernel
theorem dX12_personIs_14 : decode cX12_personIs 14 = .ok (.invokestatic 117, 3) := by decide +kernel
theorem dX12_personIs_17 : decode cX12_personIs 17 = .ok (.ifCond .eq 10, 3) := by decide +kernel
theorem dX12_personIs_20 : decode cX12_personIs 20 = .ok (.aload_n 0, 1) := by decide +kernel
theorem dX12_personIs_21 : decode cX12_personIs 21 = .ok (.iload_n 1, 1) := by decide +kernel
theorem dX12_personIs_22 : decode cX12_personIs 22 = .ok (.iload_n 2, 1) := by decide +kernel
theorem dX12_personIs_23 : decode cX12_personIs 23 = .ok (.invokevirtual 132, 3) := by decide +kernel
theorem dX12_personIs_26 : decode cX12_personIs 26 = .ok (.ireturn, 1) := by decide +kernel
theorem dX12_personIs_27 : decode cX12_personIs 27 = .ok (.iload_n 2, 1) := by decide +kernel
theorem dX12_personIs_28 : decode cX12_personIs 28 = .ok (.tableswitch 70 100 104 #[36, 45, 51, 58, 64], 36) := by decide +kernel
theorem dX12_personIs_64 : decode cX12_personIs 64 = .ok (.aload_n 0, 1) := by decide +kernel
theorem dX12_personIs_65 : decode cX12_personIs 65 = .ok (.iload_n 1, 1) := by decide +kernel
theorem dX12_personIs_66 : decode cX12_personIs 66 = .ok (.invokevirtual 139, 3) := by decide +kernel
theorem dX12_personIs_69 : decode cX12_personIs 69 = .ok (.invokestatic 352, 3) := by decide +kernel
theorem dX12_personIs_72 : decode cX12_personIs 72 = .ok (.ireturn, 1) := by decide +kernel
theorem dX12_personIs_73 : decode cX12_personIs 73 = .ok (.aload_n 0, 1) := by decide +kernel
theorem dX12_personIs_74 : decode cX12_personIs 74 = .ok (.iload_n 1, 1) := by decide +kernel
theorem dX12_personIs_75 : decode cX12_personIs 75 = .ok (.invokevirtual 135, 3) := by decide +kernel
theorem dX12_personIs_78 : decode cX12_personIs 78 = .ok (.ireturn, 1) := by decide +kernel
theorem dX12_personIs_79 : decode cX12_personIs 79 = .ok (.aload_n 0, 1) := by decide +kernel
theorem dX12_personIs_80 : decode cX12_personIs 80 = .ok (.getfield 19, 3) := by decide +kernel
theorem dX12_personIs_83 : decode cX12_personIs 83 = .ok (.iload_n 1, 1) := by decide +kernel
theorem dX12_personIs_84 : decode cX12_personIs 84 = .ok (.iaload, 1) := by decide +kernel
theorem dX12_personIs_85 : decode cX12_personIs 85 = .ok (.ireturn, 1) := by decide +kernel
theorem dX12_personIs_86 : decode cX12_personIs 86 = .ok (.aload_n 0, 1) := by decide +kernel
theorem dX12_personIs_87 : decode cX12_personIs 87 = .ok (.iload_n 1, 1) := by decide +kernel
theorem dX12_personIs_88 : decode cX12_personIs 88 = .ok (.invokevirtual 355, 3) := by decide +kernel
theorem dX12_personIs_91 : decode cX12_personIs 91 = .ok (.ireturn, 1) := by decide +kernel
theorem dX12_personIs_92 : decode cX12_personIs 92 = .ok (.aload_n 0, 1) := by decide +kernel
theorem dX12_personIs_93 : decode cX12_personIs 93 = .ok (.iload_n 1, 1) := by decide +kernel
theorem dX12_personIs_94 : decode cX12_personIs 94 = .ok (.invokevirtual 358, 3) := by decide +kernel
theorem dX12_personIs_97 : decode cX12_personIs 97 = .ok (.ireturn, 1) := by decide +kernel
theorem dX12_personIs_98 : decode cX12_personIs 98 = .ok (.iconst (-1), 1) := by decide +kernel
theorem dX12_personIs_99 : decode cX12_personIs 99 = .ok (.ireturn, 1) := by decide +kernel
theorem dX12_doorIs_0 : decode cX12_doorIs 0 = .ok (.aload_n 0, 1) := by decide +kernel
theorem dX12_doorIs_1 : decode cX12_doorIs 1 = .ok (.iload_n 1, 1) := by decide +kernel
theorem dX12_doorIs_2 : decode cX12_doorIs 2 = .ok (.invokevirtual 142, 3) := by decide +kernel
theorem dX12_doorIs_5 : decode cX12_doorIs 5 = .ok (.ifCond .ne 5, 3) := by decide +kernel
theorem dX12_doorIs_8 : decode cX12_doorIs 8 = .ok (.iconst (-1), 1) := by decide +kernel
theorem dX12_doorIs_9 : decode cX12_doorIs 9 = .ok (.ireturn, 1) := by decide +kernel
theorem dX12_doorIs_10 : decode cX12_doorIs 10 = .ok (.iload_n 2, 1) := by decide +kernel
theorem dX12_doorIs_11 : decode cX12_doorIs 11 = .ok (.tableswitch 60 0 3 #[29, 36, 43, 54], 29) := by decide +kernel
theorem dX12_doorIs_40 : decode cX12_doorIs 40 = .ok (.aload_n 0, 1) := by decide +kernel
theorem dX12_doorIs_41 : decode cX12_doorIs 41 = .ok (.getfield 25, 3) := by decide +kernel
theorem dX12_doorIs_44 : decode cX12_doorIs 44 = .ok (.iload_n 1, 1) := by decide +kernel
theorem dX12_doorIs_45 : decode cX12_doorIs 45 = .ok (.iaload, 1) := by decide +kernel
theorem dX12_doorIs_46 : decode cX12_doorIs 46 = .ok (.ireturn, 1) := by decide +kernel
theorem dX12_doorIs_47 : decode cX12_doorIs 47 = .ok (.aload_n 0, 1) := by decide +kernel
theorem dX12_doorIs_48 : decode cX12_doorIs 48 = .ok (.getfield 28, 3) := by decide +kernel
theorem dX12_doorIs_51 : decode cX12_doorIs 51 = .ok (.iload_n 1, 1) := by decide +kernel
theorem dX12_doorIs_52 : decode cX12_doorIs 52 = .ok (.iaload, 1) := by decide +kernel
theorem dX12_doorIs_53 : decode cX12_doorIs 53 = .ok (.ireturn, 1) := by decide +kernel
theorem dX12_doorIs_54 : decode cX12_doorIs 54 = .ok (.aload_n 0, 1) := by decide +kernel
theorem dX12_doorIs_55 : decode cX12_doorIs 55 = .ok (.getfield 7, 3) := by decide +kernel
theorem dX12_doorIs_58 : decode cX12_doorIs 58 = .ok (.sipush 192, 3) := by decide +kernel
theorem dX12_doorIs_61 : decode cX12_doorIs 61 = .ok (.iload_n 1, 1) := by decide +kernel
theorem dX12_doorIs_62 : decode cX12_doorIs 62 = .ok (.iadd, 1) := by decide +kernel
theorem dX12_doorIs_63 : decode cX12_doorIs 63 = .ok (.iaload, 1) := by decide +kernel
theorem dX12_doorIs_64 : decode cX12_doorIs 64 = .ok (.ireturn, 1) := by decide +kernel
theorem dX12_doorIs_65 : decode cX12_doorIs 65 = .ok (.aload_n 0, 1) := by decide +kernel
theorem dX12_doorIs_66 : decode cX12_doorIs 66 = .ok (.iload_n 1, 1) := by decide +kernel
theorem dX12_doorIs_67 : decode cX12_doorIs 67 = .ok (.invokevirtual 361, 3) := by decide +kernel
theorem dX12_doorIs_70 : decode cX12_doorIs 70 = .ok (.ireturn, 1) := by decide +kernel
theorem dX12_doorIs_71 : decode cX12_doorIs 71 = .ok (.iconst (-1), 1) := by decide +kernel
theorem dX12_doorIs_72 : decode cX12_doorIs 72 = .ok (.ireturn, 1) := by decide +kernel
theorem dX12_taught_0 : decode cX12_taught 0 = .ok (.aload_n 0, 1) := by decide +kernel
theorem dX12_taught_1 : decode cX12_taught 1 = .ok (.iload_n 1, 1) := by decide +kernel
theorem dX12_taught_2 : decode cX12_taught 2 = .ok (.invokevirtual 149, 3) := by decide +kernel
theorem dX12_taught_5 : decode cX12_taught 5 = .ok (.ifCond .eq 11, 3) := by decide +kernel
theorem dX12_taught_8 : decode cX12_taught 8 = .ok (.aload_n 0, 1) := by decide +kernel
theorem dX12_taught_9 : decode cX12_taught 9 = .ok (.iload_n 2, 1) := by decide +kernel
theorem dX12_taught_10 : decode cX12_taught 10 = .ok (.invokevirtual 142, 3) := by decide +kernel
theorem dX12_taught_13 : decode cX12_taught 13 = .ok (.ifCond .ne 5, 3) := by decide +kernel
theorem dX12_taught_16 : decode cX12_taught 16 = .ok (.iconst (-1), 1) := by decide +kernel
theorem dX12_taught_17 : decode cX12_taught 17 = .ok (.ireturn, 1) := by decide +kernel
theorem dX12_taught_18 : decode cX12_taught 18 = .ok (.ldc_w 364, 3) := by decide +kernel
theorem dX12_taught_21 : decode cX12_taught 21 = .ok (.istore_n 3, 1) := by decide +kernel
theorem dX12_taught_22 : decode cX12_taught 22 = .ok (.iconst 1, 1) := by decide +kernel
theorem dX12_taught_23 : decode cX12_taught 23 = .ok (.aload_n 0, 1) := by decide +kernel
theorem dX12_taught_24 : decode cX12_taught 24 = .ok (.getfield 28, 3) := by decide +kernel
theorem dX12_taught_27 : decode cX12_taught 27 = .ok (.iload_n 2, 1) := by decide +kernel
theorem dX12_taught_28 : decode cX12_taught 28 = .ok (.iaload, 1) := by decide +kernel
theorem dX12_taught_29 : decode cX12_taught 29 = .ok (.invokestatic 114, 3) := by decide +kernel
theorem dX12_taught_32 : decode cX12_taught 32 = .ok (.istore 4, 2) := by decide +kernel
theorem dX12_taught_34 : decode cX12_taught 34 = .ok (.iload 4, 2) := by decide +kernel
theorem dX12_taught_36 : decode cX12_taught 36 = .ok (.bipush 99, 2) := by decide +kernel
theorem dX12_taught_38 : decode cX12_taught 38 = .ok (.if_icmp .gt 83, 3) := by decide +kernel
theorem dX12_taught_41 : decode cX12_taught 41 = .ok (.iload 4, 2) := by decide +kernel
theorem dX12_taught_43 : decode cX12_taught 43 = .ok (.aload_n 0, 1) := by decide +kernel
theorem dX12_taught_44 : decode cX12_taught 44 = .ok (.iload_n 1, 1) := by decide +kernel
theorem dX12_taught_45 : decode cX12_taught 45 = .ok (.aload_n 0, 1) := by decide +kernel
theorem dX12_taught_46 : decode cX12_taught 46 = .ok (.getfield 25, 3) := by decide +kernel
theorem dX12_taught_49 : decode cX12_taught 49 = .ok (.iload_n 2, 1) := by decide +kernel
theorem dX12_taught_50 : decode cX12_taught 50 = .ok (.iaload, 1) := by decide +kernel
theorem dX12_taught_51 : decode cX12_taught 51 = .ok (.invokevirtual 132, 3) := by decide +kernel
theorem dX12_taught_54 : decode cX12_taught 54 = .ok (.isub, 1) := by decide +kernel
theorem dX12_taught_55 : decode cX12_taught 55 = .ok (.invokestatic 365, 3) := by decide +kernel
theorem dX12_taught_58 : decode cX12_taught 58 = .ok (.istore 5, 2) := by decide +kernel
theorem dX12_taught_60 : decode cX12_taught 60 = .ok (.iconst 0, 1) := by decide +kernel
theorem dX12_taught_61 : decode cX12_taught 61 = .ok (.istore 6, 2) := by decide +kernel
theorem dX12_taught_63 : decode cX12_taught 63 = .ok (.iload 6, 2) := by decide +kernel
theorem dX12_taught_65 : decode cX12_taught 65 = .ok (.bipush 16, 2) := by decide +kernel
theorem dX12_taught_67 : decode cX12_taught 67 = .ok (.if_icmp .ge 41, 3) := by decide +kernel
theorem dX12_taught_70 : decode cX12_taught 70 = .ok (.iload 6, 2) := by decide +kernel
theorem dX12_taught_72 : decode cX12_taught 72 = .ok (.aload_n 0, 1) := by decide +kernel
theorem dX12_taught_73 : decode cX12_taught 73 = .ok (.getfield 25, 3) := by decide +kernel
theorem dX12_taught_76 : decode cX12_taught 76 = .ok (.iload_n 2, 1) := by decide +kernel
theorem dX12_taught_77 : decode cX12_taught 77 = .ok (.iaload, 1) := by decide +kernel
theorem dX12_taught_78 : decode cX12_taught 78 = .ok (.if_icmp .eq 24, 3) := by decide +kernel
theorem dX12_taught_81 : decode cX12_taught 81 = .ok (.iload 5, 2) := by decide +kernel
theorem dX12_taught_83 : decode cX12_taught 83 = .ok (.iconst 0, 1) := by decide +kernel
theorem dX12_taught_84 : decode cX12_taught 84 = .ok (.aload_n 0, 1) := by decide +kernel
theorem dX12_taught_85 : decode cX12_taught 85 = .ok (.iload_n 1, 1) := by decide +kernel
theorem dX12_taught_86 : decode cX12_taught 86 = .ok (.iload 6, 2) := by decide +kernel
theorem dX12_taught_88 : decode cX12_taught 88 = .ok (.invokevirtual 132, 3) := by decide +kernel
theorem dX12_taught_91 : decode cX12_taught 91 = .ok (.iload 4, 2) := by decide +kernel
theorem dX12_taught_93 : decode cX12_taught 93 = .ok (.isub, 1) := by decide +kernel
theorem dX12_taught_94 : decode cX12_taught 94 = .ok (.iconst 1, 1) := by decide +kernel
theorem dX12_taught_95 : decode cX12_taught 95 = .ok (.iadd, 1) := by decide +kernel
theorem dX12_taught_96 : decode cX12_taught 96 = .ok (.invokestatic 114, 3) := by decide +kernel
theorem dX12_taught_99 : decode cX12_taught 99 = .ok (.iadd, 1) := by decide +kernel
theorem dX12_taught_100 : decode cX12_taught 100 = .ok (.istore 5, 2) := by decide +kernel
theorem dX12_taught_102 : decode cX12_taught 102 = .ok (.iinc 6 1, 3) := by decide +kernel
theorem dX12_taught_105 : decode cX12_taught 105 = .ok (.goto (-42), 3) := by decide +kernel
theorem dX12_taught_108 : decode cX12_taught 108 = .ok (.iload_n 3, 1) := by decide +kernel
theorem dX12_taught_109 : decode cX12_taught 109 = .ok (.iload 5, 2) := by decide +kernel
theorem dX12_taught_111 : decode cX12_taught 111 = .ok (.invokestatic 110, 3) := by decide +kernel
theorem dX12_taught_114 : decode cX12_taught 114 = .ok (.istore_n 3, 1) := by decide +kernel
theorem dX12_taught_115 : decode cX12_taught 115 = .ok (.iinc 4 1, 3) := by decide +kernel
theorem dX12_taught_118 : decode cX12_taught 118 = .ok (.goto (-84), 3) := by decide +kernel
theorem dX12_taught_121 : decode cX12_taught 121 = .ok (.iload_n 3, 1) := by decide +kernel
theorem dX12_taught_122 : decode cX12_taught 122 = .ok (.ireturn, 1) := by decide +kernel
theorem dX12_laysWho_0 : decode cX12_laysWho 0 = .ok (.iconst 0, 1) := by decide +kernel
theorem dX12_laysWho_1 : decode cX12_laysWho 1 = .ok (.istore_n 1, 1) := by decide +kernel
theorem dX12_laysWho_2 : decode cX12_laysWho 2 = .ok (.iload_n 1, 1) := by decide +kernel
theorem dX12_laysWho_3 : decode cX12_laysWho 3 = .ok (.bipush 16, 2) := by decide +kernel
theorem dX12_laysWho_5 : decode cX12_laysWho 5 = .ok (.if_icmp .ge 32, 3) := by decide +kernel
theorem dX12_laysWho_8 : decode cX12_laysWho 8 = .ok (.aload_n 0, 1) := by decide +kernel
theorem dX12_laysWho_9 : decode cX12_laysWho 9 = .ok (.getfield 93, 3) := by decide +kernel
theorem dX12_laysWho_12 : decode cX12_laysWho 12 = .ok (.iload_n 1, 1) := by decide +kernel
theorem dX12_laysWho_13 : decode cX12_laysWho 13 = .ok (.aload_n 0, 1) := by decide +kernel
theorem dX12_laysWho_14 : decode cX12_laysWho 14 = .ok (.iload_n 1, 1) := by decide +kernel
theorem dX12_laysWho_15 : decode cX12_laysWho 15 = .ok (.invokevirtual 142, 3) := by decide +kernel
theorem dX12_laysWho_18 : decode cX12_laysWho 18 = .ok (.ifCond .eq 11, 3) := by decide +kernel
theorem dX12_laysWho_21 : decode cX12_laysWho 21 = .ok (.aload_n 0, 1) := by decide +kernel
theorem dX12_laysWho_22 : decode cX12_laysWho 22 = .ok (.iload_n 1, 1) := by decide +kernel
theorem dX12_laysWho_23 : decode cX12_laysWho 23 = .ok (.invokevirtual 361, 3) := by decide +kernel
theorem dX12_laysWho_26 : decode cX12_laysWho 26 = .ok (.goto 4, 3) := by decide +kernel
theorem dX12_laysWho_29 : decode cX12_laysWho 29 = .ok (.iconst (-1), 1) := by decide +kernel
theorem dX12_laysWho_30 : decode cX12_laysWho 30 = .ok (.iastore, 1) := by decide +kernel
theorem dX12_laysWho_31 : decode cX12_laysWho 31 = .ok (.iinc 1 1, 3) := by decide +kernel
theorem dX12_laysWho_34 : decode cX12_laysWho 34 = .ok (.goto (-32), 3) := by decide +kernel
theorem dX12_laysWho_37 : decode cX12_laysWho 37 = .ok (.return_, 1) := by decide +kernel
theorem dX12_isCrew_0 : decode cX12_isCrew 0 = .ok (.iconst 0, 1) := by decide +kernel
theorem dX12_isCrew_1 : decode cX12_isCrew 1 = .ok (.istore_n 2, 1) := by decide +kernel
theorem dX12_isCrew_2 : decode cX12_isCrew 2 = .ok (.iload_n 2, 1) := by decide +kernel
theorem dX12_isCrew_3 : decode cX12_isCrew 3 = .ok (.bipush 16, 2) := by decide +kernel
theorem dX12_isCrew_5 : decode cX12_isCrew 5 = .ok (.if_icmp .ge 32, 3) := by decide +kernel
theorem dX12_isCrew_8 : decode cX12_isCrew 8 = .ok (.aload_n 0, 1) := by decide +kernel
theorem dX12_isCrew_9 : decode cX12_isCrew 9 = .ok (.getfield 93, 3) := by decide +kernel
theorem dX12_isCrew_12 : decode cX12_isCrew 12 = .ok (.iload_n 2, 1) := by decide +kernel
theorem dX12_isCrew_13 : decode cX12_isCrew 13 = .ok (.iaload, 1) := by decide +kernel
theorem dX12_isCrew_14 : decode cX12_isCrew 14 = .ok (.iconst (-1), 1) := by decide +kernel
theorem dX12_isCrew_15 : decode cX12_isCrew 15 = .ok (.if_icmp .eq 16, 3) := by decide +kernel
theorem dX12_isCrew_18 : decode cX12_isCrew 18 = .ok (.aload_n 0, 1) := by decide +kernel
theorem dX12_isCrew_19 : decode cX12_isCrew 19 = .ok (.getfield 93, 3) := by decide +kernel
theorem dX12_isCrew_22 : decode cX12_isCrew 22 = .ok (.iload_n 2, 1) := by decide +kernel
theorem dX12_isCrew_23 : decode cX12_isCrew 23 = .ok (.iaload, 1) := by decide +kernel
theorem dX12_isCrew_24 : decode cX12_isCrew 24 = .ok (.iload_n 1, 1) := by decide +kernel
theorem dX12_isCrew_25 : decode cX12_isCrew 25 = .ok (.iand, 1) := by decide +kernel
theorem dX12_isCrew_26 : decode cX12_isCrew 26 = .ok (.ifCond .ne 5, 3) := by decide +kernel
theorem dX12_isCrew_29 : decode cX12_isCrew 29 = .ok (.iconst 0, 1) := by decide +kernel
theorem dX12_isCrew_30 : decode cX12_isCrew 30 = .ok (.ireturn, 1) := by decide +kernel
theorem dX12_isCrew_31 : decode cX12_isCrew 31 = .ok (.iinc 2 1, 3) := by decide +kernel
theorem dX12_isCrew_34 : decode cX12_isCrew 34 = .ok (.goto (-32), 3) := by decide +kernel
theorem dX12_isCrew_37 : decode cX12_isCrew 37 = .ok (.iconst 1, 1) := by decide +kernel
theorem dX12_isCrew_38 : decode cX12_isCrew 38 = .ok (.ireturn, 1) := by decide +kernel
theorem dX12_crew_0 : decode cX12_crew 0 = .ok (.iload_n 1, 1) := by decide +kernel
theorem dX12_crew_1 : decode cX12_crew 1 = .ok (.iconst 0, 1) := by decide +kernel
theorem dX12_crew_2 : decode cX12_crew 2 = .ok (.iconst 1, 1) := by decide +kernel
theorem dX12_crew_3 : decode cX12_crew 3 = .ok (.invokestatic 117, 3) := by decide +kernel
theorem dX12_crew_6 : decode cX12_crew 6 = .ok (.ifCond .ne 5, 3) := by decide +kernel
theorem dX12_crew_9 : decode cX12_crew 9 = .ok (.iconst (-1), 1) := by decide +kernel
theorem dX12_crew_10 : decode cX12_crew 10 = .ok (.ireturn, 1) := by decide +kernel
theorem dX12_crew_11 : decode cX12_crew 11 = .ok (.aload_n 0, 1) := by decide +kernel
theorem dX12_crew_12 : decode cX12_crew 12 = .ok (.invokevirtual 368, 3) := by decide +kernel
theorem dX12_crew_15 : decode cX12_crew 15 = .ok (.bipush (-2), 2) := by decide +kernel
theorem dX12_crew_17 : decode cX12_crew 17 = .ok (.istore_n 2, 1) := by decide +kernel
theorem dX12_crew_18 : decode cX12_crew 18 = .ok (.sipush 4095, 3) := by decide +kernel
theorem dX12_crew_21 : decode cX12_crew 21 = .ok (.istore_n 3, 1) := by decide +kernel
theorem dX12_crew_22 : decode cX12_crew 22 = .ok (.iload_n 3, 1) := by decide +kernel
theorem dX12_crew_23 : decode cX12_crew 23 = .ok (.ifCond .lt 36, 3) := by decide +kernel
theorem dX12_crew_26 : decode cX12_crew 26 = .ok (.aload_n 0, 1) := by decide +kernel
theorem dX12_crew_27 : decode cX12_crew 27 = .ok (.iload_n 3, 1) := by decide +kernel
theorem dX12_crew_28 : decode cX12_crew 28 = .ok (.invokevirtual 371, 3) := by decide +kernel
theorem dX12_crew_31 : decode cX12_crew 31 = .ok (.ifCond .eq 22, 3) := by decide +kernel
theorem dX12_crew_34 : decode cX12_crew 34 = .ok (.iload_n 2, 1) := by decide +kernel
theorem dX12_crew_35 : decode cX12_crew 35 = .ok (.bipush (-2), 2) := by decide +kernel
theorem dX12_crew_37 : decode cX12_crew 37 = .ok (.if_icmp .eq 14, 3) := by decide +kernel
theorem dX12_crew_40 : decode cX12_crew 40 = .ok (.iload_n 3, 1) := by decide +kernel
theorem dX12_crew_41 : decode cX12_crew 41 = .ok (.invokestatic 308, 3) := by decide +kernel
theorem dX12_crew_44 : decode cX12_crew 44 = .ok (.iload_n 2, 1) := by decide +kernel
theorem dX12_crew_45 : decode cX12_crew 45 = .ok (.invokestatic 308, 3) := by decide +kernel
theorem dX12_crew_48 : decode cX12_crew 48 = .ok (.if_icmp .gt 5, 3) := by decide +kernel
theorem dX12_crew_51 : decode cX12_crew 51 = .ok (.iload_n 3, 1) := by decide +kernel
theorem dX12_crew_52 : decode cX12_crew 52 = .ok (.istore_n 2, 1) := by decide +kernel
theorem dX12_crew_53 : decode cX12_crew 53 = .ok (.iinc 3 (-1), 3) := by decide +kernel
theorem dX12_crew_56 : decode cX12_crew 56 = .ok (.goto (-34), 3) := by decide +kernel
theorem dX12_crew_59 : decode cX12_crew 59 = .ok (.iload_n 1, 1) := by decide +kernel
theorem dX12_crew_60 : decode cX12_crew 60 = .ok (.iconst 1, 1) := by decide +kernel
theorem dX12_crew_61 : decode cX12_crew 61 = .ok (.if_icmp .eq 9, 3) := by decide +kernel
theorem dX12_crew_64 : decode cX12_crew 64 = .ok (.iload_n 2, 1) := by decide +kernel
theorem dX12_crew_65 : decode cX12_crew 65 = .ok (.bipush (-2), 2) := by decide +kernel
theorem dX12_crew_67 : decode cX12_crew 67 = .ok (.if_icmp .ne 7, 3) := by decide +kernel
theorem dX12_crew_70 : decode cX12_crew 70 = .ok (.iload_n 2, 1) := by decide +kernel
theorem dX12_crew_71 : decode cX12_crew 71 = .ok (.goto 7, 3) := by decide +kernel
theorem dX12_crew_74 : decode cX12_crew 74 = .ok (.iload_n 2, 1) := by decide +kernel
theorem dX12_crew_75 : decode cX12_crew 75 = .ok (.invokestatic 308, 3) := by decide +kernel
theorem dX12_crew_78 : decode cX12_crew 78 = .ok (.ireturn, 1) := by decide +kernel
theorem dX12_lodgings_0 : decode cX12_lodgings 0 = .ok (.aload_n 0, 1) := by decide +kernel
theorem dX12_lodgings_1 : decode cX12_lodgings 1 = .ok (.invokevirtual 368, 3) := by decide +kernel
theorem dX12_lodgings_4 : decode cX12_lodgings 4 = .ok (.iconst 0, 1) := by decide +kernel
theorem dX12_lodgings_5 : decode cX12_lodgings 5 = .ok (.istore_n 1, 1) := by decide +kernel
theorem dX12_lodgings_6 : decode cX12_lodgings 6 = .ok (.iload_n 1, 1) := by decide +kernel
theorem dX12_lodgings_7 : decode cX12_lodgings 7 = .ok (.sipush 4096, 3) := by decide +kernel
theorem dX12_lodgings_10 : decode cX12_lodgings 10 = .ok (.if_icmp .ge 24, 3) := by decide +kernel
theorem dX12_lodgings_13 : decode cX12_lodgings 13 = .ok (.aload_n 0, 1) := by decide +kernel
theorem dX12_lodgings_14 : decode cX12_lodgings 14 = .ok (.getfield 86, 3) := by decide +kernel
theorem dX12_lodgings_17 : decode cX12_lodgings 17 = .ok (.iload_n 1, 1) := by decide +kernel
theorem dX12_lodgings_18 : decode cX12_lodgings 18 = .ok (.iload_n 1, 1) := by decide +kernel
theorem dX12_lodgings_19 : decode cX12_lodgings 19 = .ok (.ifCond .ne 7, 3) := by decide +kernel
theorem dX12_lodgings_22 : decode cX12_lodgings 22 = .ok (.iconst 1, 1) := by decide +kernel
theorem dX12_lodgings_23 : decode cX12_lodgings 23 = .ok (.goto 4, 3) := by decide +kernel
theorem dX12_lodgings_26 : decode cX12_lodgings 26 = .ok (.iconst 0, 1) := by decide +kernel
theorem dX12_lodgings_27 : decode cX12_lodgings 27 = .ok (.bastore, 1) := by decide +kernel
theorem dX12_lodgings_28 : decode cX12_lodgings 28 = .ok (.iinc 1 1, 3) := by decide +kernel
theorem dX12_lodgings_31 : decode cX12_lodgings 31 = .ok (.goto (-25), 3) := by decide +kernel
theorem dX12_lodgings_34 : decode cX12_lodgings 34 = .ok (.iconst 0, 1) := by decide +kernel
theorem dX12_lodgings_35 : decode cX12_lodgings 35 = .ok (.istore_n 1, 1) := by decide +kernel
theorem dX12_lodgings_36 : decode cX12_lodgings 36 = .ok (.iconst 0, 1) := by decide +kernel
theorem dX12_lodgings_37 : decode cX12_lodgings 37 = .ok (.istore_n 2, 1) := by decide +kernel
theorem dX12_lodgings_38 : decode cX12_lodgings 38 = .ok (.iload_n 2, 1) := by decide +kernel
theorem dX12_lodgings_39 : decode cX12_lodgings 39 = .ok (.bipush 16, 2) := by decide +kernel
theorem dX12_lodgings_41 : decode cX12_lodgings 41 = .ok (.if_icmp .ge 110, 3) := by decide +kernel
theorem dX12_lodgings_44 : decode cX12_lodgings 44 = .ok (.sipush 4095, 3) := by decide +kernel
theorem dX12_lodgings_47 : decode cX12_lodgings 47 = .ok (.istore_n 3, 1) := by decide +kernel
theorem dX12_lodgings_48 : decode cX12_lodgings 48 = .ok (.iload_n 3, 1) := by decide +kernel
theorem dX12_lodgings_49 : decode cX12_lodgings 49 = .ok (.ifCond .lt 96, 3) := by decide +kernel
theorem dX12_lodgings_52 : decode cX12_lodgings 52 = .ok (.aload_n 0, 1) := by decide +kernel
theorem dX12_lodgings_53 : decode cX12_lodgings 53 = .ok (.getfield 93, 3) := by decide +kernel
theorem dX12_lodgings_56 : decode cX12_lodgings 56 = .ok (.iload_n 2, 1) := by decide +kernel
theorem dX12_lodgings_57 : decode cX12_lodgings 57 = .ok (.iaload, 1) := by decide +kernel
theorem dX12_lodgings_58 : decode cX12_lodgings 58 = .ok (.iconst (-1), 1) := by decide +kernel
theorem dX12_lodgings_59 : decode cX12_lodgings 59 = .ok (.if_icmp .eq 86, 3) := by decide +kernel
theorem dX12_lodgings_62 : decode cX12_lodgings 62 = .ok (.aload_n 0, 1) := by decide +kernel
theorem dX12_lodgings_63 : decode cX12_lodgings 63 = .ok (.getfield 86, 3) := by decide +kernel
theorem dX12_lodgings_66 : decode cX12_lodgings 66 = .ok (.iload_n 3, 1) := by decide +kernel
theorem dX12_lodgings_67 : decode cX12_lodgings 67 = .ok (.baload, 1) := by decide +kernel
theorem dX12_lodgings_68 : decode cX12_lodgings 68 = .ok (.ifCond .ne 6, 3) := by decide +kernel
theorem dX12_lodgings_71 : decode cX12_lodgings 71 = .ok (.goto 68, 3) := by decide +kernel
theorem dX12_lodgings_74 : decode cX12_lodgings 74 = .ok (.iconst 0, 1) := by decide +kernel
theorem dX12_lodgings_75 : decode cX12_lodgings 75 = .ok (.istore 4, 2) := by decide +kernel
theorem dX12_lodgings_77 : decode cX12_lodgings 77 = .ok (.iload 4, 2) := by decide +kernel
theorem dX12_lodgings_79 : decode cX12_lodgings 79 = .ok (.bipush 12, 2) := by decide +kernel
theorem dX12_lodgings_81 : decode cX12_lodgings 81 = .ok (.if_icmp .ge 58, 3) := by decide +kernel
theorem dX12_lodgings_84 : decode cX12_lodgings 84 = .ok (.aload_n 0, 1) := by decide +kernel
theorem dX12_lodgings_85 : decode cX12_lodgings 85 = .ok (.getfield 93, 3) := by decide +kernel
theorem dX12_lodgings_88 : decode cX12_lodgings 88 = .ok (.iload_n 2, 1) := by decide +kernel
theorem dX12_lodgings_89 : decode cX12_lodgings 89 = .ok (.iaload, 1) := by decide +kernel
theorem dX12_lodgings_90 : decode cX12_lodgings 90 = .ok (.iload 4, 2) := by decide +kernel
theorem dX12_lodgings_92 : decode cX12_lodgings 92 = .ok (.invokestatic 125, 3) := by decide +kernel
theorem dX12_lodgings_95 : decode cX12_lodgings 95 = .ok (.ifCond .eq 38, 3) := by decide +kernel
theorem dX12_lodgings_98 : decode cX12_lodgings 98 = .ok (.iload_n 3, 1) := by decide +kernel
theorem dX12_lodgings_99 : decode cX12_lodgings 99 = .ok (.iload 4, 2) := by decide +kernel
theorem dX12_lodgings_101 : decode cX12_lodgings 101 = .ok (.invokestatic 125, 3) := by decide +kernel
theorem dX12_lodgings_104 : decode cX12_lodgings 104 = .ok (.ifCond .eq 6, 3) := by decide +kernel
theorem dX12_lodgings_107 : decode cX12_lodgings 107 = .ok (.goto 26, 3) := by decide +kernel
theorem dX12_lodgings_110 : decode cX12_lodgings 110 = .ok (.aload_n 0, 1) := by decide +kernel
theorem dX12_lodgings_111 : decode cX12_lodgings 111 = .ok (.getfield 86, 3) := by decide +kernel
theorem dX12_lodgings_114 : decode cX12_lodgings 114 = .ok (.iload_n 3, 1) := by decide +kernel
theorem dX12_lodgings_115 : decode cX12_lodgings 115 = .ok (.iconst 1, 1) := by decide +kernel
theorem dX12_lodgings_116 : decode cX12_lodgings 116 = .ok (.iload 4, 2) := by decide +kernel
theorem dX12_lodgings_118 : decode cX12_lodgings 118 = .ok (.ishl, 1) := by decide +kernel
theorem dX12_lodgings_119 : decode cX12_lodgings 119 = .ok (.ior, 1) := by decide +kernel
theorem dX12_lodgings_120 : decode cX12_lodgings 120 = .ok (.iconst 1, 1) := by decide +kernel
theorem dX12_lodgings_121 : decode cX12_lodgings 121 = .ok (.bastore, 1) := by decide +kernel
theorem dX12_lodgings_122 : decode cX12_lodgings 122 = .ok (.iload_n 1, 1) := by decide +kernel
theorem dX12_lodgings_123 : decode cX12_lodgings 123 = .ok (.iload_n 3, 1) := by decide +kernel
theorem dX12_lodgings_124 : decode cX12_lodgings 124 = .ok (.invokestatic 308, 3) := by decide +kernel
theorem dX12_lodgings_127 : decode cX12_lodgings 127 = .ok (.iconst 1, 1) := by decide +kernel
theorem dX12_lodgings_128 : decode cX12_lodgings 128 = .ok (.iadd, 1) := by decide +kernel
theorem dX12_lodgings_129 : decode cX12_lodgings 129 = .ok (.invokestatic 114, 3) := by decide +kernel
theorem dX12_lodgings_132 : decode cX12_lodgings 132 = .ok (.istore_n 1, 1) := by decide +kernel
theorem dX12_lodgings_133 : decode cX12_lodgings 133 = .ok (.iinc 4 1, 3) := by decide +kernel
theorem dX12_lodgings_136 : decode cX12_lodgings 136 = .ok (.goto (-59), 3) := by decide +kernel
theorem dX12_lodgings_139 : decode cX12_lodgings 139 = .ok (.iinc 3 (-1), 3) := by decide +kernel
theorem dX12_lodgings_142 : decode cX12_lodgings 142 = .ok (.goto (-94), 3) := by decide +kernel
theorem dX12_lodgings_145 : decode cX12_lodgings 145 = .ok (.iinc 2 1, 3) := by decide +kernel
theorem dX12_lodgings_148 : decode cX12_lodgings 148 = .ok (.goto (-110), 3) := by decide +kernel
theorem dX12_lodgings_151 : decode cX12_lodgings 151 = .ok (.iload_n 1, 1) := by decide +kernel
theorem dX12_lodgings_152 : decode cX12_lodgings 152 = .ok (.ireturn, 1) := by decide +kernel
theorem dX12_areCouple_0 : decode cX12_areCouple 0 = .ok (.iconst 0, 1) := by decide +kernel
theorem dX12_areCouple_1 : decode cX12_areCouple 1 = .ok (.istore 4, 2) := by decide +kernel
theorem dX12_areCouple_3 : decode cX12_areCouple 3 = .ok (.iload 4, 2) := by decide +kernel
theorem dX12_areCouple_5 : decode cX12_areCouple 5 = .ok (.bipush 16, 2) := by decide +kernel
theorem dX12_areCouple_7 : decode cX12_areCouple 7 = .ok (.if_icmp .ge 33, 3) := by decide +kernel
theorem dX12_areCouple_10 : decode cX12_areCouple 10 = .ok (.aload_n 0, 1) := by decide +kernel
theorem dX12_areCouple_11 : decode cX12_areCouple 11 = .ok (.iload_n 1, 1) := by decide +kernel
theorem dX12_areCouple_12 : decode cX12_areCouple 12 = .ok (.iload 4, 2) := by decide +kernel
theorem dX12_areCouple_14 : decode cX12_areCouple 14 = .ok (.invokevirtual 132, 3) := by decide +kernel
theorem dX12_areCouple_17 : decode cX12_areCouple 17 = .ok (.iload_n 3, 1) := by decide +kernel
theorem dX12_areCouple_18 : decode cX12_areCouple 18 = .ok (.if_icmp .lt 16, 3) := by decide +kernel
theorem dX12_areCouple_21 : decode cX12_areCouple 21 = .ok (.aload_n 0, 1) := by decide +kernel
theorem dX12_areCouple_22 : decode cX12_areCouple 22 = .ok (.iload_n 2, 1) := by decide +kernel
theorem dX12_areCouple_23 : decode cX12_areCouple 23 = .ok (.iload 4, 2) := by decide +kernel
theorem dX12_areCouple_25 : decode cX12_areCouple 25 = .ok (.invokevirtual 132, 3) := by decide +kernel
theorem dX12_areCouple_28 : decode cX12_areCouple 28 = .ok (.iload_n 3, 1) := by decide +kernel
theorem dX12_areCouple_29 : decode cX12_areCouple 29 = .ok (.if_icmp .lt 5, 3) := by decide +kernel
theorem dX12_areCouple_32 : decode cX12_areCouple 32 = .ok (.iconst 1, 1) := by decide +kernel
theorem dX12_areCouple_33 : decode cX12_areCouple 33 = .ok (.ireturn, 1) := by decide +kernel
theorem dX12_areCouple_34 : decode cX12_areCouple 34 = .ok (.iinc 4 1, 3) := by decide +kernel
theorem dX12_areCouple_37 : decode cX12_areCouple 37 = .ok (.goto (-34), 3) := by decide +kernel
theorem dX12_areCouple_40 : decode cX12_areCouple 40 = .ok (.iconst 0, 1) := by decide +kernel
theorem dX12_areCouple_41 : decode cX12_areCouple 41 = .ok (.ireturn, 1) := by decide +kernel
theorem dX12_couples_0 : decode cX12_couples 0 = .ok (.iload_n 1, 1) := by decide +kernel
theorem dX12_couples_1 : decode cX12_couples 1 = .ok (.iconst 1, 1) := by decide +kernel
theorem dX12_couples_2 : decode cX12_couples 2 = .ok (.bipush 99, 2) := by decide +kernel
theorem dX12_couples_4 : decode cX12_couples 4 = .ok (.invokestatic 117, 3) := by decide +kernel
theorem dX12_couples_7 : decode cX12_couples 7 = .ok (.ifCond .ne 5, 3) := by decide +kernel
theorem dX12_couples_10 : decode cX12_couples 10 = .ok (.iconst (-1), 1) := by decide +kernel
theorem dX12_couples_11 : decode cX12_couples 11 = .ok (.ireturn, 1) := by decide +kernel
theorem dX12_couples_12 : decode cX12_couples 12 = .ok (.iconst 0, 1) := by decide +kernel
theorem dX12_couples_13 : decode cX12_couples 13 = .ok (.istore_n 2, 1) := by decide +kernel
theorem dX12_couples_14 : decode cX12_couples 14 = .ok (.iload_n 2, 1) := by decide +kernel
theorem dX12_couples_15 : decode cX12_couples 15 = .ok (.bipush 12, 2) := by decide +kernel
theorem dX12_couples_17 : decode cX12_couples 17 = .ok (.if_icmp .ge 77, 3) := by decide +kernel
theorem dX12_couples_20 : decode cX12_couples 20 = .ok (.aload_n 0, 1) := by decide +kernel
theorem dX12_couples_21 : decode cX12_couples 21 = .ok (.getfield 93, 3) := by decide +kernel
theorem dX12_couples_24 : decode cX12_couples 24 = .ok (.iload_n 2, 1) := by decide +kernel
theorem dX12_couples_25 : decode cX12_couples 25 = .ok (.iconst 0, 1) := by decide +kernel
theorem dX12_couples_26 : decode cX12_couples 26 = .ok (.iastore, 1) := by decide +kernel
theorem dX12_couples_27 : decode cX12_couples 27 = .ok (.iconst 0, 1) := by decide +kernel
theorem dX12_couples_28 : decode cX12_couples 28 = .ok (.istore_n 3, 1) := by decide +kernel
theorem dX12_couples_29 : decode cX12_couples 29 = .ok (.iload_n 3, 1) := by decide +kernel
theorem dX12_couples_30 : decode cX12_couples 30 = .ok (.bipush 12, 2) := by decide +kernel
theorem dX12_couples_32 : decode cX12_couples 32 = .ok (.if_icmp .ge 56, 3) := by decide +kernel
theorem dX12_couples_35 : decode cX12_couples 35 = .ok (.iload_n 2, 1) := by decide +kernel
theorem dX12_couples_36 : decode cX12_couples 36 = .ok (.iload_n 3, 1) := by decide +kernel
theorem dX12_couples_37 : decode cX12_couples 37 = .ok (.if_icmp .eq 45, 3) := by decide +kernel
theorem dX12_couples_40 : decode cX12_couples 40 = .ok (.aload_n 0, 1) := by decide +kernel
theorem dX12_couples_41 : decode cX12_couples 41 = .ok (.iload_n 2, 1) := by decide +kernel
theorem dX12_couples_42 : decode cX12_couples 42 = .ok (.invokevirtual 149, 3) := by decide +kernel
theorem dX12_couples_45 : decode cX12_couples 45 = .ok (.ifCond .eq 37, 3) := by decide +kernel
theorem dX12_couples_48 : decode cX12_couples 48 = .ok (.aload_n 0, 1) := by decide +kernel
theorem dX12_couples_49 : decode cX12_couples 49 = .ok (.iload_n 3, 1) := by decide +kernel
theorem dX12_couples_50 : decode cX12_couples 50 = .ok (.invokevirtual 149, 3) := by decide +kernel
theorem dX12_couples_53 : decode cX12_couples 53 = .ok (.ifCond .eq 29, 3) := by decide +kernel
theorem dX12_couples_56 : decode cX12_couples 56 = .ok (.aload_n 0, 1) := by decide +kernel
theorem dX12_couples_57 : decode cX12_couples 57 = .ok (.iload_n 2, 1) := by decide +kernel
theorem dX12_couples_58 : decode cX12_couples 58 = .ok (.iload_n 3, 1) := by decide +kernel
theorem dX12_couples_59 : decode cX12_couples 59 = .ok (.iload_n 1, 1) := by decide +kernel
theorem dX12_couples_60 : decode cX12_couples 60 = .ok (.invokevirtual 374, 3) := by decide +kernel
theorem dX12_couples_63 : decode cX12_couples 63 = .ok (.ifCond .eq 19, 3) := by decide +kernel
theorem dX12_couples_66 : decode cX12_couples 66 = .ok (.aload_n 0, 1) := by decide +kernel
theorem dX12_couples_67 : decode cX12_couples 67 = .ok (.getfield 93, 3) := by decide +kernel
theorem dX12_couples_70 : decode cX12_couples 70 = .ok (.iload_n 2, 1) := by decide +kernel
theorem dX12_couples_71 : decode cX12_couples 71 = .ok (.aload_n 0, 1) := by decide +kernel
theorem dX12_couples_72 : decode cX12_couples 72 = .ok (.getfield 93, 3) := by decide +kernel
theorem dX12_couples_75 : decode cX12_couples 75 = .ok (.iload_n 2, 1) := by decide +kernel
theorem dX12_couples_76 : decode cX12_couples 76 = .ok (.iaload, 1) := by decide +kernel
theorem dX12_couples_77 : decode cX12_couples 77 = .ok (.iconst 1, 1) := by decide +kernel
theorem dX12_couples_78 : decode cX12_couples 78 = .ok (.iload_n 3, 1) := by decide +kernel
theorem dX12_couples_79 : decode cX12_couples 79 = .ok (.ishl, 1) := by decide +kernel
theorem dX12_couples_80 : decode cX12_couples 80 = .ok (.ior, 1) := by decide +kernel
theorem dX12_couples_81 : decode cX12_couples 81 = .ok (.iastore, 1) := by decide +kernel
theorem dX12_couples_82 : decode cX12_couples 82 = .ok (.iinc 3 1, 3) := by decide +kernel
theorem dX12_couples_85 : decode cX12_couples 85 = .ok (.goto (-56), 3) := by decide +kernel
theorem dX12_couples_88 : decode cX12_couples 88 = .ok (.iinc 2 1, 3) := by decide +kernel
theorem dX12_couples_91 : decode cX12_couples 91 = .ok (.goto (-77), 3) := by decide +kernel
theorem dX12_couples_94 : decode cX12_couples 94 = .ok (.iconst 0, 1) := by decide +kernel
theorem dX12_couples_95 : decode cX12_couples 95 = .ok (.istore_n 2, 1) := by decide +kernel
theorem dX12_couples_96 : decode cX12_couples 96 = .ok (.iload_n 2, 1) := by decide +kernel
theorem dX12_couples_97 : decode cX12_couples 97 = .ok (.sipush 4096, 3) := by decide +kernel
theorem dX12_couples_100 : decode cX12_couples 100 = .ok (.if_icmp .ge 114, 3) := by decide +kernel
theorem dX12_couples_103 : decode cX12_couples 103 = .ok (.aload_n 0, 1) := by decide +kernel
theorem dX12_couples_104 : decode cX12_couples 104 = .ok (.getfield 90, 3) := by decide +kernel
theorem dX12_couples_107 : decode cX12_couples 107 = .ok (.iload_n 2, 1) := by decide +kernel
theorem dX12_couples_108 : decode cX12_couples 108 = .ok (.iconst 0, 1) := by decide +kernel
theorem dX12_couples_109 : decode cX12_couples 109 = .ok (.iastore, 1) := by decide +kernel
theorem dX12_couples_110 : decode cX12_couples 110 = .ok (.iload_n 2, 1) := by decide +kernel
theorem dX12_couples_111 : decode cX12_couples 111 = .ok (.ifCond .ne 6, 3) := by decide +kernel
theorem dX12_couples_114 : decode cX12_couples 114 = .ok (.goto 94, 3) := by decide +kernel
theorem dX12_couples_117 : decode cX12_couples 117 = .ok (.iload_n 2, 1) := by decide +kernel
theorem dX12_couples_118 : decode cX12_couples 118 = .ok (.invokestatic 377, 3) := by decide +kernel
theorem dX12_couples_121 : decode cX12_couples 121 = .ok (.istore_n 3, 1) := by decide +kernel
theorem dX12_couples_122 : decode cX12_couples 122 = .ok (.aload_n 0, 1) := by decide +kernel
theorem dX12_couples_123 : decode cX12_couples 123 = .ok (.getfield 90, 3) := by decide +kernel
theorem dX12_couples_126 : decode cX12_couples 126 = .ok (.iload_n 2, 1) := by decide +kernel
theorem dX12_couples_127 : decode cX12_couples 127 = .ok (.aload_n 0, 1) := by decide +kernel
theorem dX12_couples_128 : decode cX12_couples 128 = .ok (.getfield 90, 3) := by decide +kernel
theorem dX12_couples_131 : decode cX12_couples 131 = .ok (.iload_n 2, 1) := by decide +kernel
theorem dX12_couples_132 : decode cX12_couples 132 = .ok (.iconst 1, 1) := by decide +kernel
theorem dX12_couples_133 : decode cX12_couples 133 = .ok (.iload_n 3, 1) := by decide +kernel
theorem dX12_couples_134 : decode cX12_couples 134 = .ok (.ishl, 1) := by decide +kernel
theorem dX12_couples_135 : decode cX12_couples 135 = .ok (.iconst (-1), 1) := by decide +kernel
theorem dX12_couples_136 : decode cX12_couples 136 = .ok (.ixor, 1) := by decide +kernel
theorem dX12_couples_137 : decode cX12_couples 137 = .ok (.iand, 1) := by decide +kernel
theorem dX12_couples_138 : decode cX12_couples 138 = .ok (.iaload, 1) := by decide +kernel
theorem dX12_couples_139 : decode cX12_couples 139 = .ok (.iastore, 1) := by decide +kernel
theorem dX12_couples_140 : decode cX12_couples 140 = .ok (.iload_n 3, 1) := by decide +kernel
theorem dX12_couples_141 : decode cX12_couples 141 = .ok (.iconst 1, 1) := by decide +kernel
theorem dX12_couples_142 : decode cX12_couples 142 = .ok (.iadd, 1) := by decide +kernel
theorem dX12_couples_143 : decode cX12_couples 143 = .ok (.istore 4, 2) := by decide +kernel
theorem dX12_couples_145 : decode cX12_couples 145 = .ok (.iload 4, 2) := by decide +kernel
theorem dX12_couples_147 : decode cX12_couples 147 = .ok (.bipush 12, 2) := by decide +kernel
theorem dX12_couples_149 : decode cX12_couples 149 = .ok (.if_icmp .ge 59, 3) := by decide +kernel
theorem dX12_couples_152 : decode cX12_couples 152 = .ok (.iload_n 2, 1) := by decide +kernel
theorem dX12_couples_153 : decode cX12_couples 153 = .ok (.aload_n 0, 1) := by decide +kernel
theorem dX12_couples_154 : decode cX12_couples 154 = .ok (.getfield 93, 3) := by decide +kernel
theorem dX12_couples_157 : decode cX12_couples 157 = .ok (.iload_n 3, 1) := by decide +kernel
theorem dX12_couples_158 : decode cX12_couples 158 = .ok (.iaload, 1) := by decide +kernel
theorem dX12_couples_159 : decode cX12_couples 159 = .ok (.iand, 1) := by decide +kernel
theorem dX12_couples_160 : decode cX12_couples 160 = .ok (.iload 4, 2) := by decide +kernel
theorem dX12_couples_162 : decode cX12_couples 162 = .ok (.invokestatic 125, 3) := by decide +kernel
theorem dX12_couples_165 : decode cX12_couples 165 = .ok (.ifCond .eq 37, 3) := by decide +kernel
theorem dX12_couples_168 : decode cX12_couples 168 = .ok (.aload_n 0, 1) := by decide +kernel
theorem dX12_couples_169 : decode cX12_couples 169 = .ok (.getfield 90, 3) := by decide +kernel
theorem dX12_couples_172 : decode cX12_couples 172 = .ok (.iload_n 2, 1) := by decide +kernel
theorem dX12_couples_173 : decode cX12_couples 173 = .ok (.aload_n 0, 1) := by decide +kernel
theorem dX12_couples_174 : decode cX12_couples 174 = .ok (.getfield 90, 3) := by decide +kernel
theorem dX12_couples_177 : decode cX12_couples 177 = .ok (.iload_n 2, 1) := by decide +kernel
theorem dX12_couples_178 : decode cX12_couples 178 = .ok (.iaload, 1) := by decide +kernel
theorem dX12_couples_179 : decode cX12_couples 179 = .ok (.aload_n 0, 1) := by decide +kernel
theorem dX12_couples_180 : decode cX12_couples 180 = .ok (.getfield 90, 3) := by decide +kernel
theorem dX12_couples_183 : decode cX12_couples 183 = .ok (.iload_n 2, 1) := by decide +kernel
theorem dX12_couples_184 : decode cX12_couples 184 = .ok (.iconst 1, 1) := by decide +kernel
theorem dX12_couples_185 : decode cX12_couples 185 = .ok (.iload_n 3, 1) := by decide +kernel
theorem dX12_couples_186 : decode cX12_couples 186 = .ok (.ishl, 1) := by decide +kernel
theorem dX12_couples_187 : decode cX12_couples 187 = .ok (.iconst 1, 1) := by decide +kernel
theorem dX12_couples_188 : decode cX12_couples 188 = .ok (.iload 4, 2) := by decide +kernel
theorem dX12_couples_190 : decode cX12_couples 190 = .ok (.ishl, 1) := by decide +kernel
theorem dX12_couples_191 : decode cX12_couples 191 = .ok (.ior, 1) := by decide +kernel
theorem dX12_couples_192 : decode cX12_couples 192 = .ok (.iconst (-1), 1) := by decide +kernel
theorem dX12_couples_193 : decode cX12_couples 193 = .ok (.ixor, 1) := by decide +kernel
theorem dX12_couples_194 : decode cX12_couples 194 = .ok (.iand, 1) := by decide +kernel
theorem dX12_couples_195 : decode cX12_couples 195 = .ok (.iaload, 1) := by decide +kernel
theorem dX12_couples_196 : decode cX12_couples 196 = .ok (.iconst 1, 1) := by decide +kernel
theorem dX12_couples_197 : decode cX12_couples 197 = .ok (.iadd, 1) := by decide +kernel
theorem dX12_couples_198 : decode cX12_couples 198 = .ok (.invokestatic 114, 3) := by decide +kernel
theorem dX12_couples_201 : decode cX12_couples 201 = .ok (.iastore, 1) := by decide +kernel
theorem dX12_couples_202 : decode cX12_couples 202 = .ok (.iinc 4 1, 3) := by decide +kernel
theorem dX12_couples_205 : decode cX12_couples 205 = .ok (.goto (-60), 3) := by decide +kernel
theorem dX12_couples_208 : decode cX12_couples 208 = .ok (.iinc 2 1, 3) := by decide +kernel
theorem dX12_couples_211 : decode cX12_couples 211 = .ok (.goto (-115), 3) := by decide +kernel
theorem dX12_couples_214 : decode cX12_couples 214 = .ok (.aload_n 0, 1) := by decide +kernel
theorem dX12_couples_215 : decode cX12_couples 215 = .ok (.getfield 90, 3) := by decide +kernel
theorem dX12_couples_218 : decode cX12_couples 218 = .ok (.sipush 4095, 3) := by decide +kernel
theorem dX12_couples_221 : decode cX12_couples 221 = .ok (.iaload, 1) := by decide +kernel
theorem dX12_couples_222 : decode cX12_couples 222 = .ok (.ireturn, 1) := by decide +kernel
theorem dX12_lowest_0 : decode cX12_lowest 0 = .ok (.iconst 0, 1) := by decide +kernel
theorem dX12_lowest_1 : decode cX12_lowest 1 = .ok (.istore_n 1, 1) := by decide +kernel
theorem dX12_lowest_2 : decode cX12_lowest 2 = .ok (.iload_n 0, 1) := by decide +kernel
theorem dX12_lowest_3 : decode cX12_lowest 3 = .ok (.iload_n 1, 1) := by decide +kernel
theorem dX12_lowest_4 : decode cX12_lowest 4 = .ok (.invokestatic 125, 3) := by decide +kernel
theorem dX12_lowest_7 : decode cX12_lowest 7 = .ok (.ifCond .ne 10, 3) := by decide +kernel
theorem dX12_lowest_10 : decode cX12_lowest 10 = .ok (.iload_n 1, 1) := by decide +kernel
theorem dX12_lowest_11 : decode cX12_lowest 11 = .ok (.iconst 1, 1) := by decide +kernel
theorem dX12_lowest_12 : decode cX12_lowest 12 = .ok (.iadd, 1) := by decide +kernel
theorem dX12_lowest_13 : decode cX12_lowest 13 = .ok (.istore_n 1, 1) := by decide +kernel
theorem dX12_lowest_14 : decode cX12_lowest 14 = .ok (.goto (-12), 3) := by decide +kernel
theorem dX12_lowest_17 : decode cX12_lowest 17 = .ok (.iload_n 1, 1) := by decide +kernel
theorem dX12_lowest_18 : decode cX12_lowest 18 = .ok (.ireturn, 1) := by decide +kernel
theorem dX12_firstWith_0 : decode cX12_firstWith 0 = .ok (.iconst 0, 1) := by decide +kernel
theorem dX12_firstWith_1 : decode cX12_firstWith 1 = .ok (.istore_n 2, 1) := by decide +kernel
theorem dX12_firstWith_2 : decode cX12_firstWith 2 = .ok (.iconst 0, 1) := by decide +kernel
theorem dX12_firstWith_3 : decode cX12_firstWith 3 = .ok (.istore_n 3, 1) := by decide +kernel
theorem dX12_firstWith_4 : decode cX12_firstWith 4 = .ok (.iload_n 3, 1) := by decide +kernel
theorem dX12_firstWith_5 : decode cX12_firstWith 5 = .ok (.bipush 12, 2) := by decide +kernel
theorem dX12_firstWith_7 : decode cX12_firstWith 7 = .ok (.if_icmp .ge 32, 3) := by decide +kernel
theorem dX12_firstWith_10 : decode cX12_firstWith 10 = .ok (.aload_n 0, 1) := by decide +kernel
theorem dX12_firstWith_11 : decode cX12_firstWith 11 = .ok (.iload_n 3, 1) := by decide +kernel
theorem dX12_firstWith_12 : decode cX12_firstWith 12 = .ok (.invokevirtual 149, 3) := by decide +kernel
theorem dX12_firstWith_15 : decode cX12_firstWith 15 = .ok (.ifCond .eq 18, 3) := by decide +kernel
theorem dX12_firstWith_18 : decode cX12_firstWith 18 = .ok (.aload_n 0, 1) := by decide +kernel
theorem dX12_firstWith_19 : decode cX12_firstWith 19 = .ok (.iload_n 3, 1) := by decide +kernel
theorem dX12_firstWith_20 : decode cX12_firstWith 20 = .ok (.invokevirtual 139, 3) := by decide +kernel
theorem dX12_firstWith_23 : decode cX12_firstWith 23 = .ok (.iload_n 1, 1) := by decide +kernel
theorem dX12_firstWith_24 : decode cX12_firstWith 24 = .ok (.if_icmp .ne 9, 3) := by decide +kernel
theorem dX12_firstWith_27 : decode cX12_firstWith 27 = .ok (.iload_n 2, 1) := by decide +kernel
theorem dX12_firstWith_28 : decode cX12_firstWith 28 = .ok (.iconst 1, 1) := by decide +kernel
theorem dX12_firstWith_29 : decode cX12_firstWith 29 = .ok (.iload_n 3, 1) := by decide +kernel
theorem dX12_firstWith_30 : decode cX12_firstWith 30 = .ok (.ishl, 1) := by decide +kernel
theorem dX12_firstWith_31 : decode cX12_firstWith 31 = .ok (.ior, 1) := by decide +kernel
theorem dX12_firstWith_32 : decode cX12_firstWith 32 = .ok (.istore_n 2, 1) := by decide +kernel
theorem dX12_firstWith_33 : decode cX12_firstWith 33 = .ok (.iinc 3 1, 3) := by decide +kernel
theorem dX12_firstWith_36 : decode cX12_firstWith 36 = .ok (.goto (-32), 3) := by decide +kernel
theorem dX12_firstWith_39 : decode cX12_firstWith 39 = .ok (.iload_n 2, 1) := by decide +kernel
theorem dX12_firstWith_40 : decode cX12_firstWith 40 = .ok (.ireturn, 1) := by decide +kernel
theorem dX12_fashion_0 : decode cX12_fashion 0 = .ok (.iload_n 1, 1) := by decide +kernel
theorem dX12_fashion_1 : decode cX12_fashion 1 = .ok (.iconst 0, 1) := by decide +kernel
theorem dX12_fashion_2 : decode cX12_fashion 2 = .ok (.bipush 15, 2) := by decide +kernel
theorem dX12_fashion_4 : decode cX12_fashion 4 = .ok (.invokestatic 117, 3) := by decide +kernel
theorem dX12_fashion_7 : decode cX12_fashion 7 = .ok (.ifCond .eq 22, 3) := by decide +kernel
theorem dX12_fashion_10 : decode cX12_fashion 10 = .ok (.iload_n 2, 1) := by decide +kernel
theorem dX12_fashion_11 : decode cX12_fashion 11 = .ok (.iconst 1, 1) := by decide +kernel
theorem dX12_fashion_12 : decode cX12_fashion 12 = .ok (.bipush 11, 2) := by decide +kernel
theorem dX12_fashion_14 : decode cX12_fashion 14 = .ok (.invokestatic 117, 3) := by decide +kernel
theorem dX12_fashion_17 : decode cX12_fashion 17 = .ok (.ifCond .eq 12, 3) := by decide +kernel
theorem dX12_fashion_20 : decode cX12_fashion 20 = .ok (.iload_n 3, 1) := by decide +kernel
theorem dX12_fashion_21 : decode cX12_fashion 21 = .ok (.iconst 0, 1) := by decide +kernel
theorem dX12_fashion_22 : decode cX12_fashion 22 = .ok (.iconst 1, 1) := by decide +kernel
theorem dX12_fashion_23 : decode cX12_fashion 23 = .ok (.invokestatic 117, 3) := by decide +kernel
theorem dX12_fashion_26 : decode cX12_fashion 26 = .ok (.ifCond .ne 5, 3) := by decide +kernel
theorem dX12_fashion_29 : decode cX12_fashion 29 = .ok (.iconst (-1), 1) := by decide +kernel
theorem dX12_fashion_30 : decode cX12_fashion 30 = .ok (.ireturn, 1) := by decide +kernel
theorem dX12_fashion_31 : decode cX12_fashion 31 = .ok (.aload_n 0, 1) := by decide +kernel
theorem dX12_fashion_32 : decode cX12_fashion 32 = .ok (.iload_n 1, 1) := by decide +kernel
theorem dX12_fashion_33 : decode cX12_fashion 33 = .ok (.invokevirtual 380, 3) := by decide +kernel
theorem dX12_fashion_36 : decode cX12_fashion 36 = .ok (.istore 4, 2) := by decide +kernel
theorem dX12_fashion_38 : decode cX12_fashion 38 = .ok (.iconst (-1), 1) := by decide +kernel
theorem dX12_fashion_39 : decode cX12_fashion 39 = .ok (.istore 5, 2) := by decide +kernel
theorem dX12_fashion_41 : decode cX12_fashion 41 = .ok (.iconst (-1), 1) := by decide +kernel
theorem dX12_fashion_42 : decode cX12_fashion 42 = .ok (.istore 6, 2) := by decide +kernel
theorem dX12_fashion_44 : decode cX12_fashion 44 = .ok (.iload 4, 2) := by decide +kernel
theorem dX12_fashion_46 : decode cX12_fashion 46 = .ok (.iload 5, 2) := by decide +kernel
theorem dX12_fashion_48 : decode cX12_fashion 48 = .ok (.if_icmp .eq 67, 3) := by decide +kernel
theorem dX12_fashion_51 : decode cX12_fashion 51 = .ok (.iload 4, 2) := by decide +kernel
theorem dX12_fashion_53 : decode cX12_fashion 53 = .ok (.istore 5, 2) := by decide +kernel
theorem dX12_fashion_55 : decode cX12_fashion 55 = .ok (.iload 6, 2) := by decide +kernel
theorem dX12_fashion_57 : decode cX12_fashion 57 = .ok (.iconst 1, 1) := by decide +kernel
theorem dX12_fashion_58 : decode cX12_fashion 58 = .ok (.iadd, 1) := by decide +kernel
theorem dX12_fashion_59 : decode cX12_fashion 59 = .ok (.istore 6, 2) := by decide +kernel
theorem dX12_fashion_61 : decode cX12_fashion 61 = .ok (.iconst 0, 1) := by decide +kernel
theorem dX12_fashion_62 : decode cX12_fashion 62 = .ok (.istore 7, 2) := by decide +kernel
theorem dX12_fashion_64 : decode cX12_fashion 64 = .ok (.iload 7, 2) := by decide +kernel
theorem dX12_fashion_66 : decode cX12_fashion 66 = .ok (.bipush 12, 2) := by decide +kernel
theorem dX12_fashion_68 : decode cX12_fashion 68 = .ok (.if_icmp .ge 44, 3) := by decide +kernel
theorem dX12_fashion_71 : decode cX12_fashion 71 = .ok (.aload_n 0, 1) := by decide +kernel
theorem dX12_fashion_72 : decode cX12_fashion 72 = .ok (.iload 7, 2) := by decide +kernel
theorem dX12_fashion_74 : decode cX12_fashion 74 = .ok (.invokevirtual 149, 3) := by decide +kernel
theorem dX12_fashion_77 : decode cX12_fashion 77 = .ok (.ifCond .eq 29, 3) := by decide +kernel
theorem dX12_fashion_80 : decode cX12_fashion 80 = .ok (.aload_n 0, 1) := by decide +kernel
theorem dX12_fashion_81 : decode cX12_fashion 81 = .ok (.getfield 19, 3) := by decide +kernel
theorem dX12_fashion_84 : decode cX12_fashion 84 = .ok (.iload 7, 2) := by decide +kernel
theorem dX12_fashion_86 : decode cX12_fashion 86 = .ok (.iaload, 1) := by decide +kernel
theorem dX12_fashion_87 : decode cX12_fashion 87 = .ok (.iload 5, 2) := by decide +kernel
theorem dX12_fashion_89 : decode cX12_fashion 89 = .ok (.iand, 1) := by decide +kernel
theorem dX12_fashion_90 : decode cX12_fashion 90 = .ok (.invokestatic 308, 3) := by decide +kernel
theorem dX12_fashion_93 : decode cX12_fashion 93 = .ok (.iload_n 2, 1) := by decide +kernel
theorem dX12_fashion_94 : decode cX12_fashion 94 = .ok (.if_icmp .lt 12, 3) := by decide +kernel
theorem dX12_fashion_97 : decode cX12_fashion 97 = .ok (.iload 4, 2) := by decide +kernel
theorem dX12_fashion_99 : decode cX12_fashion 99 = .ok (.iconst 1, 1) := by decide +kernel
theorem dX12_fashion_100 : decode cX12_fashion 100 = .ok (.iload 7, 2) := by decide +kernel
theorem dX12_fashion_102 : decode cX12_fashion 102 = .ok (.ishl, 1) := by decide +kernel
theorem dX12_fashion_103 : decode cX12_fashion 103 = .ok (.ior, 1) := by decide +kernel
theorem dX12_fashion_104 : decode cX12_fashion 104 = .ok (.istore 4, 2) := by decide +kernel
theorem dX12_fashion_106 : decode cX12_fashion 106 = .ok (.iinc 7 1, 3) := by decide +kernel
theorem dX12_fashion_109 : decode cX12_fashion 109 = .ok (.goto (-45), 3) := by decide +kernel
theorem dX12_fashion_112 : decode cX12_fashion 112 = .ok (.goto (-68), 3) := by decide +kernel
theorem dX12_fashion_115 : decode cX12_fashion 115 = .ok (.iload_n 3, 1) := by decide +kernel
theorem dX12_fashion_116 : decode cX12_fashion 116 = .ok (.ifCond .ne 8, 3) := by decide +kernel
theorem dX12_fashion_119 : decode cX12_fashion 119 = .ok (.iload 4, 2) := by decide +kernel
theorem dX12_fashion_121 : decode cX12_fashion 121 = .ok (.goto 5, 3) := by decide +kernel
theorem dX12_fashion_124 : decode cX12_fashion 124 = .ok (.iload 6, 2) := by decide +kernel
theorem dX12_fashion_126 : decode cX12_fashion 126 = .ok (.ireturn, 1) := by decide +kernel
theorem dX12_fears_0 : decode cX12_fears 0 = .ok (.iload_n 1, 1) := by decide +kernel
theorem dX12_fears_1 : decode cX12_fears 1 = .ok (.iconst 0, 1) := by decide +kernel
theorem dX12_fears_2 : decode cX12_fears 2 = .ok (.iconst 1, 1) := by decide +kernel
theorem dX12_fears_3 : decode cX12_fears 3 = .ok (.invokestatic 117, 3) := by decide +kernel
theorem dX12_fears_6 : decode cX12_fears 6 = .ok (.ifCond .ne 5, 3) := by decide +kernel
theorem dX12_fears_9 : decode cX12_fears 9 = .ok (.iconst (-1), 1) := by decide +kernel
theorem dX12_fears_10 : decode cX12_fears 10 = .ok (.ireturn, 1) := by decide +kernel
theorem dX12_fears_11 : decode cX12_fears 11 = .ok (.ldc_w 261, 3) := by decide +kernel
theorem dX12_fears_14 : decode cX12_fears 14 = .ok (.istore_n 2, 1) := by decide +kernel
theorem dX12_fears_15 : decode cX12_fears 15 = .ok (.iconst 0, 1) := by decide +kernel
theorem dX12_fears_16 : decode cX12_fears 16 = .ok (.istore_n 3, 1) := by decide +kernel
theorem dX12_fears_17 : decode cX12_fears 17 = .ok (.iload_n 3, 1) := by decide +kernel
theorem dX12_fears_18 : decode cX12_fears 18 = .ok (.bipush 12, 2) := by decide +kernel
theorem dX12_fears_20 : decode cX12_fears 20 = .ok (.if_icmp .ge 64, 3) := by decide +kernel
theorem dX12_fears_23 : decode cX12_fears 23 = .ok (.iconst 0, 1) := by decide +kernel
theorem dX12_fears_24 : decode cX12_fears 24 = .ok (.istore 4, 2) := by decide +kernel
theorem dX12_fears_26 : decode cX12_fears 26 = .ok (.iload 4, 2) := by decide +kernel
theorem dX12_fears_28 : decode cX12_fears 28 = .ok (.bipush 16, 2) := by decide +kernel
theorem dX12_fears_30 : decode cX12_fears 30 = .ok (.if_icmp .ge 48, 3) := by decide +kernel
theorem dX12_fears_33 : decode cX12_fears 33 = .ok (.aload_n 0, 1) := by decide +kernel
theorem dX12_fears_34 : decode cX12_fears 34 = .ok (.iload_n 3, 1) := by decide +kernel
theorem dX12_fears_35 : decode cX12_fears 35 = .ok (.invokevirtual 149, 3) := by decide +kernel
theorem dX12_fears_38 : decode cX12_fears 38 = .ok (.ifCond .eq 40, 3) := by decide +kernel
theorem dX12_fears_41 : decode cX12_fears 41 = .ok (.aload_n 0, 1) := by decide +kernel
theorem dX12_fears_42 : decode cX12_fears 42 = .ok (.iload_n 3, 1) := by decide +kernel
theorem dX12_fears_43 : decode cX12_fears 43 = .ok (.iload 4, 2) := by decide +kernel
theorem dX12_fears_45 : decode cX12_fears 45 = .ok (.invokevirtual 132, 3) := by decide +kernel
theorem dX12_fears_48 : decode cX12_fears 48 = .ok (.ifCond .ne 11, 3) := by decide +kernel
theorem dX12_fears_51 : decode cX12_fears 51 = .ok (.iload_n 1, 1) := by decide +kernel
theorem dX12_fears_52 : decode cX12_fears 52 = .ok (.iconst 1, 1) := by decide +kernel
theorem dX12_fears_53 : decode cX12_fears 53 = .ok (.if_icmp .ne 19, 3) := by decide +kernel
theorem dX12_fears_56 : decode cX12_fears 56 = .ok (.goto 7, 3) := by decide +kernel
theorem dX12_fears_59 : decode cX12_fears 59 = .ok (.iload_n 1, 1) := by decide +kernel
theorem dX12_fears_60 : decode cX12_fears 60 = .ok (.ifCond .ne 12, 3) := by decide +kernel
theorem dX12_fears_63 : decode cX12_fears 63 = .ok (.iload_n 2, 1) := by decide +kernel
theorem dX12_fears_64 : decode cX12_fears 64 = .ok (.iconst 1, 1) := by decide +kernel
theorem dX12_fears_65 : decode cX12_fears 65 = .ok (.iload 4, 2) := by decide +kernel
theorem dX12_fears_67 : decode cX12_fears 67 = .ok (.ishl, 1) := by decide +kernel
theorem dX12_fears_68 : decode cX12_fears 68 = .ok (.iconst (-1), 1) := by decide +kernel
theorem dX12_fears_69 : decode cX12_fears 69 = .ok (.ixor, 1) := by decide +kernel
theorem dX12_fears_70 : decode cX12_fears 70 = .ok (.iand, 1) := by decide +kernel
theorem dX12_fears_71 : decode cX12_fears 71 = .ok (.istore_n 2, 1) := by decide +kernel
theorem dX12_fears_72 : decode cX12_fears 72 = .ok (.iinc 4 1, 3) := by decide +kernel
theorem dX12_fears_75 : decode cX12_fears 75 = .ok (.goto (-49), 3) := by decide +kernel
theorem dX12_fears_78 : decode cX12_fears 78 = .ok (.iinc 3 1, 3) := by decide +kernel
theorem dX12_fears_81 : decode cX12_fears 81 = .ok (.goto (-64), 3) := by decide +kernel
theorem dX12_fears_84 : decode cX12_fears 84 = .ok (.iload_n 2, 1) := by decide +kernel
theorem dX12_fears_85 : decode cX12_fears 85 = .ok (.ireturn, 1) := by decide +kernel
theorem dX12_unlikeBy_0 : decode cX12_unlikeBy 0 = .ok (.iconst 0, 1) := by decide +kernel
theorem dX12_unlikeBy_1 : decode cX12_unlikeBy 1 = .ok (.istore_n 3, 1) := by decide +kernel
theorem dX12_unlikeBy_2 : decode cX12_unlikeBy 2 = .ok (.iconst 0, 1) := by decide +kernel
theorem dX12_unlikeBy_3 : decode cX12_unlikeBy 3 = .ok (.istore 4, 2) := by decide +kernel
theorem dX12_unlikeBy_5 : decode cX12_unlikeBy 5 = .ok (.iload 4, 2) := by decide +kernel
theorem dX12_unlikeBy_7 : decode cX12_unlikeBy 7 = .ok (.bipush 16, 2) := by decide +kernel
theorem dX12_unlikeBy_9 : decode cX12_unlikeBy 9 = .ok (.if_icmp .ge 30, 3) := by decide +kernel
theorem dX12_unlikeBy_12 : decode cX12_unlikeBy 12 = .ok (.iload_n 3, 1) := by decide +kernel
theorem dX12_unlikeBy_13 : decode cX12_unlikeBy 13 = .ok (.aload_n 0, 1) := by decide +kernel
theorem dX12_unlikeBy_14 : decode cX12_unlikeBy 14 = .ok (.iload_n 1, 1) := by decide +kernel
theorem dX12_unlikeBy_15 : decode cX12_unlikeBy 15 = .ok (.iload 4, 2) := by decide +kernel
theorem dX12_unlikeBy_17 : decode cX12_unlikeBy 17 = .ok (.invokevirtual 132, 3) := by decide +kernel
theorem dX12_unlikeBy_20 : decode cX12_unlikeBy 20 = .ok (.aload_n 0, 1) := by decide +kernel
theorem dX12_unlikeBy_21 : decode cX12_unlikeBy 21 = .ok (.iload_n 2, 1) := by decide +kernel
theorem dX12_unlikeBy_22 : decode cX12_unlikeBy 22 = .ok (.iload 4, 2) := by decide +kernel
theorem dX12_unlikeBy_24 : decode cX12_unlikeBy 24 = .ok (.invokevirtual 132, 3) := by decide +kernel
theorem dX12_unlikeBy_27 : decode cX12_unlikeBy 27 = .ok (.isub, 1) := by decide +kernel
theorem dX12_unlikeBy_28 : decode cX12_unlikeBy 28 = .ok (.invokestatic 365, 3) := by decide +kernel
theorem dX12_unlikeBy_31 : decode cX12_unlikeBy 31 = .ok (.iadd, 1) := by decide +kernel
theorem dX12_unlikeBy_32 : decode cX12_unlikeBy 32 = .ok (.istore_n 3, 1) := by decide +kernel
theorem dX12_unlikeBy_33 : decode cX12_unlikeBy 33 = .ok (.iinc 4 1, 3) := by decide +kernel
theorem dX12_unlikeBy_36 : decode cX12_unlikeBy 36 = .ok (.goto (-31), 3) := by decide +kernel
theorem dX12_unlikeBy_39 : decode cX12_unlikeBy 39 = .ok (.iload_n 3, 1) := by decide +kernel
theorem dX12_unlikeBy_40 : decode cX12_unlikeBy 40 = .ok (.ireturn, 1) := by decide +kernel
theorem dX12_unlike_0 : decode cX12_unlike 0 = .ok (.aload_n 0, 1) := by decide +kernel
theorem dX12_unlike_1 : decode cX12_unlike 1 = .ok (.iload_n 1, 1) := by decide +kernel
theorem dX12_unlike_2 : decode cX12_unlike 2 = .ok (.invokevirtual 149, 3) := by decide +kernel
theorem dX12_unlike_5 : decode cX12_unlike 5 = .ok (.ifCond .eq 20, 3) := by decide +kernel
theorem dX12_unlike_8 : decode cX12_unlike 8 = .ok (.aload_n 0, 1) := by decide +kernel
theorem dX12_unlike_9 : decode cX12_unlike 9 = .ok (.iload_n 2, 1) := by decide +kernel
theorem dX12_unlike_10 : decode cX12_unlike 10 = .ok (.invokevirtual 149, 3) := by decide +kernel
theorem dX12_unlike_13 : decode cX12_unlike 13 = .ok (.ifCond .eq 12, 3) := by decide +kernel
theorem dX12_unlike_16 : decode cX12_unlike 16 = .ok (.aload_n 0, 1) := by decide +kernel
theorem dX12_unlike_17 : decode cX12_unlike 17 = .ok (.iload_n 1, 1) := by decide +kernel
theorem dX12_unlike_18 : decode cX12_unlike 18 = .ok (.iload_n 2, 1) := by decide +kernel
theorem dX12_unlike_19 : decode cX12_unlike 19 = .ok (.invokevirtual 383, 3) := by decide +kernel
theorem dX12_unlike_22 : decode cX12_unlike 22 = .ok (.goto 4, 3) := by decide +kernel
theorem dX12_unlike_25 : decode cX12_unlike 25 = .ok (.iconst (-1), 1) := by decide +kernel
theorem dX12_unlike_26 : decode cX12_unlike 26 = .ok (.ireturn, 1) := by decide +kernel
theorem dX12_mostLike_0 : decode cX12_mostLike 0 = .ok (.aload_n 0, 1) := by decide +kernel
theorem dX12_mostLike_1 : decode cX12_mostLike 1 = .ok (.iload_n 1, 1) := by decide +kernel
theorem dX12_mostLike_2 : decode cX12_mostLike 2 = .ok (.invokevirtual 149, 3) := by decide +kernel
theorem dX12_mostLike_5 : decode cX12_mostLike 5 = .ok (.ifCond .ne 5, 3) := by decide +kernel
theorem dX12_mostLike_8 : decode cX12_mostLike 8 = .ok (.iconst (-1), 1) := by decide +kernel
theorem dX12_mostLike_9 : decode cX12_mostLike 9 = .ok (.ireturn, 1) := by decide +kernel
theorem dX12_mostLike_10 : decode cX12_mostLike 10 = .ok (.bipush (-2), 2) := by decide +kernel
theorem dX12_mostLike_12 : decode cX12_mostLike 12 = .ok (.istore_n 2, 1) := by decide +kernel
theorem dX12_mostLike_13 : decode cX12_mostLike 13 = .ok (.iconst 0, 1) := by decide +kernel
theorem dX12_mostLike_14 : decode cX12_mostLike 14 = .ok (.istore_n 3, 1) := by decide +kernel
theorem dX12_mostLike_15 : decode cX12_mostLike 15 = .ok (.iload_n 3, 1) := by decide +kernel
theorem dX12_mostLike_16 : decode cX12_mostLike 16 = .ok (.bipush 12, 2) := by decide +kernel
theorem dX12_mostLike_18 : decode cX12_mostLike 18 = .ok (.if_icmp .ge 45, 3) := by decide +kernel
theorem dX12_mostLike_21 : decode cX12_mostLike 21 = .ok (.iload_n 3, 1) := by decide +kernel
theorem dX12_mostLike_22 : decode cX12_mostLike 22 = .ok (.iload_n 1, 1) := by decide +kernel
theorem dX12_mostLike_23 : decode cX12_mostLike 23 = .ok (.if_icmp .eq 34, 3) := by decide +kernel
theorem dX12_mostLike_26 : decode cX12_mostLike 26 = .ok (.aload_n 0, 1) := by decide +kernel
theorem dX12_mostLike_27 : decode cX12_mostLike 27 = .ok (.iload_n 3, 1) := by decide +kernel
theorem dX12_mostLike_28 : decode cX12_mostLike 28 = .ok (.invokevirtual 149, 3) := by decide +kernel
theorem dX12_mostLike_31 : decode cX12_mostLike 31 = .ok (.ifCond .eq 26, 3) := by decide +kernel
theorem dX12_mostLike_34 : decode cX12_mostLike 34 = .ok (.iload_n 2, 1) := by decide +kernel
theorem dX12_mostLike_35 : decode cX12_mostLike 35 = .ok (.bipush (-2), 2) := by decide +kernel
theorem dX12_mostLike_37 : decode cX12_mostLike 37 = .ok (.if_icmp .eq 18, 3) := by decide +kernel
theorem dX12_mostLike_40 : decode cX12_mostLike 40 = .ok (.aload_n 0, 1) := by decide +kernel
theorem dX12_mostLike_41 : decode cX12_mostLike 41 = .ok (.iload_n 1, 1) := by decide +kernel
theorem dX12_mostLike_42 : decode cX12_mostLike 42 = .ok (.iload_n 3, 1) := by decide +kernel
theorem dX12_mostLike_43 : decode cX12_mostLike 43 = .ok (.invokevirtual 383, 3) := by decide +kernel
theorem dX12_mostLike_46 : decode cX12_mostLike 46 = .ok (.aload_n 0, 1) := by decide +kernel
theorem dX12_mostLike_47 : decode cX12_mostLike 47 = .ok (.iload_n 1, 1) := by decide +kernel
theorem dX12_mostLike_48 : decode cX12_mostLike 48 = .ok (.iload_n 2, 1) := by decide +kernel
theorem dX12_mostLike_49 : decode cX12_mostLike 49 = .ok (.invokevirtual 383, 3) := by decide +kernel
theorem dX12_mostLike_52 : decode cX12_mostLike 52 = .ok (.if_icmp .ge 5, 3) := by decide +kernel
theorem dX12_mostLike_55 : decode cX12_mostLike 55 = .ok (.iload_n 3, 1) := by decide +kernel
theorem dX12_mostLike_56 : decode cX12_mostLike 56 = .ok (.istore_n 2, 1) := by decide +kernel
theorem dX12_mostLike_57 : decode cX12_mostLike 57 = .ok (.iinc 3 1, 3) := by decide +kernel
theorem dX12_mostLike_60 : decode cX12_mostLike 60 = .ok (.goto (-45), 3) := by decide +kernel
theorem dX12_mostLike_63 : decode cX12_mostLike 63 = .ok (.iload_n 2, 1) := by decide +kernel
theorem dX12_mostLike_64 : decode cX12_mostLike 64 = .ok (.ireturn, 1) := by decide +kernel
theorem dX12_circleOf_0 : decode cX12_circleOf 0 = .ok (.iconst 1, 1) := by decide +kernel
theorem dX12_circleOf_1 : decode cX12_circleOf 1 = .ok (.iload_n 1, 1) := by decide +kernel
theorem dX12_circleOf_2 : decode cX12_circleOf 2 = .ok (.ishl, 1) := by decide +kernel
theorem dX12_circleOf_3 : decode cX12_circleOf 3 = .ok (.istore_n 3, 1) := by decide +kernel
theorem dX12_circleOf_4 : decode cX12_circleOf 4 = .ok (.iconst 0, 1) := by decide +kernel
theorem dX12_circleOf_5 : decode cX12_circleOf 5 = .ok (.istore 4, 2) := by decide +kernel
theorem dX12_circleOf_7 : decode cX12_circleOf 7 = .ok (.iload_n 3, 1) := by decide +kernel
theorem dX12_circleOf_8 : decode cX12_circleOf 8 = .ok (.iload 4, 2) := by decide +kernel
theorem dX12_circleOf_10 : decode cX12_circleOf 10 = .ok (.if_icmp .eq 79, 3) := by decide +kernel
theorem dX12_circleOf_13 : decode cX12_circleOf 13 = .ok (.iload_n 3, 1) := by decide +kernel
theorem dX12_circleOf_14 : decode cX12_circleOf 14 = .ok (.istore 4, 2) := by decide +kernel
theorem dX12_circleOf_16 : decode cX12_circleOf 16 = .ok (.iconst 0, 1) := by decide +kernel
theorem dX12_circleOf_17 : decode cX12_circleOf 17 = .ok (.istore 5, 2) := by decide +kernel
theorem dX12_circleOf_19 : decode cX12_circleOf 19 = .ok (.iload 5, 2) := by decide +kernel
theorem dX12_circleOf_21 : decode cX12_circleOf 21 = .ok (.bipush 12, 2) := by decide +kernel
theorem dX12_circleOf_23 : decode cX12_circleOf 23 = .ok (.if_icmp .ge 63, 3) := by decide +kernel
theorem dX12_circleOf_26 : decode cX12_circleOf 26 = .ok (.iconst 0, 1) := by decide +kernel
theorem dX12_circleOf_27 : decode cX12_circleOf 27 = .ok (.istore 6, 2) := by decide +kernel
theorem dX12_circleOf_29 : decode cX12_circleOf 29 = .ok (.iload 6, 2) := by decide +kernel
theorem dX12_circleOf_31 : decode cX12_circleOf 31 = .ok (.bipush 12, 2) := by decide +kernel
theorem dX12_circleOf_33 : decode cX12_circleOf 33 = .ok (.if_icmp .ge 47, 3) := by decide +kernel
theorem dX12_circleOf_36 : decode cX12_circleOf 36 = .ok (.iload 4, 2) := by decide +kernel
theorem dX12_circleOf_38 : decode cX12_circleOf 38 = .ok (.iload 5, 2) := by decide +kernel
theorem dX12_circleOf_40 : decode cX12_circleOf 40 = .ok (.invokestatic 125, 3) := by decide +kernel
theorem dX12_circleOf_43 : decode cX12_circleOf 43 = .ok (.ifCond .eq 37, 3) := by decide +kernel
theorem dX12_circleOf_46 : decode cX12_circleOf 46 = .ok (.aload_n 0, 1) := by decide +kernel
theorem dX12_circleOf_47 : decode cX12_circleOf 47 = .ok (.iload 6, 2) := by decide +kernel
theorem dX12_circleOf_49 : decode cX12_circleOf 49 = .ok (.invokevirtual 149, 3) := by decide +kernel
theorem dX12_circleOf_52 : decode cX12_circleOf 52 = .ok (.ifCond .eq 22, 3) := by decide +kernel
theorem dX12_circleOf_55 : decode cX12_circleOf 55 = .ok (.aload_n 0, 1) := by decide +kernel
theorem dX12_circleOf_56 : decode cX12_circleOf 56 = .ok (.iload 5, 2) := by decide +kernel
theorem dX12_circleOf_58 : decode cX12_circleOf 58 = .ok (.iload 6, 2) := by decide +kernel
theorem dX12_circleOf_60 : decode cX12_circleOf 60 = .ok (.invokevirtual 383, 3) := by decide +kernel
theorem dX12_circleOf_63 : decode cX12_circleOf 63 = .ok (.iload_n 2, 1) := by decide +kernel
theorem dX12_circleOf_64 : decode cX12_circleOf 64 = .ok (.if_icmp .gt 10, 3) := by decide +kernel
theorem dX12_circleOf_67 : decode cX12_circleOf 67 = .ok (.iload_n 3, 1) := by decide +kernel
theorem dX12_circleOf_68 : decode cX12_circleOf 68 = .ok (.iconst 1, 1) := by decide +kernel
theorem dX12_circleOf_69 : decode cX12_circleOf 69 = .ok (.iload 6, 2) := by decide +kernel
theorem dX12_circleOf_71 : decode cX12_circleOf 71 = .ok (.ishl, 1) := by decide +kernel
theorem dX12_circleOf_72 : decode cX12_circleOf 72 = .ok (.ior, 1) := by decide +kernel
theorem dX12_circleOf_73 : decode cX12_circleOf 73 = .ok (.istore_n 3, 1) := by decide +kernel
theorem dX12_circleOf_74 : decode cX12_circleOf 74 = .ok (.iinc 6 1, 3) := by decide +kernel
theorem dX12_circleOf_77 : decode cX12_circleOf 77 = .ok (.goto (-48), 3) := by decide +kernel
theorem dX12_circleOf_80 : decode cX12_circleOf 80 = .ok (.iinc 5 1, 3) := by decide +kernel
theorem dX12_circleOf_83 : decode cX12_circleOf 83 = .ok (.goto (-64), 3) := by decide +kernel
theorem dX12_circleOf_86 : decode cX12_circleOf 86 = .ok (.goto (-79), 3) := by decide +kernel
theorem dX12_circleOf_89 : decode cX12_circleOf 89 = .ok (.iload_n 3, 1) := by decide +kernel
theorem dX12_circleOf_90 : decode cX12_circleOf 90 = .ok (.ireturn, 1) := by decide +kernel
theorem dX12_circles_0 : decode cX12_circles 0 = .ok (.iload_n 1, 1) := by decide +kernel
theorem dX12_circles_1 : decode cX12_circles 1 = .ok (.iconst 0, 1) := by decide +kernel
theorem dX12_circles_2 : decode cX12_circles 2 = .ok (.sipush 1584, 3) := by decide +kernel
theorem dX12_circles_5 : decode cX12_circles 5 = .ok (.invokestatic 117, 3) := by decide +kernel
theorem dX12_circles_8 : decode cX12_circles 8 = .ok (.ifCond .eq 17, 3) := by decide +kernel
theorem dX12_circles_11 : decode cX12_circles 11 = .ok (.iload_n 2, 1) := by decide +kernel
theorem dX12_circles_12 : decode cX12_circles 12 = .ok (.bipush 100, 2) := by decide +kernel
theorem dX12_circles_14 : decode cX12_circles 14 = .ok (.if_icmp .eq 13, 3) := by decide +kernel
theorem dX12_circles_17 : decode cX12_circles 17 = .ok (.aload_n 0, 1) := by decide +kernel
theorem dX12_circles_18 : decode cX12_circles 18 = .ok (.iload_n 2, 1) := by decide +kernel
theorem dX12_circles_19 : decode cX12_circles 19 = .ok (.invokevirtual 149, 3) := by decide +kernel
theorem dX12_circles_22 : decode cX12_circles 22 = .ok (.ifCond .ne 5, 3) := by decide +kernel
theorem dX12_circles_25 : decode cX12_circles 25 = .ok (.iconst (-1), 1) := by decide +kernel
theorem dX12_circles_26 : decode cX12_circles 26 = .ok (.ireturn, 1) := by decide +kernel
theorem dX12_circles_27 : decode cX12_circles 27 = .ok (.iload_n 2, 1) := by decide +kernel
theorem dX12_circles_28 : decode cX12_circles 28 = .ok (.bipush 100, 2) := by decide +kernel
theorem dX12_circles_30 : decode cX12_circles 30 = .ok (.if_icmp .eq 10, 3) := by decide +kernel
theorem dX12_circles_33 : decode cX12_circles 33 = .ok (.aload_n 0, 1) := by decide +kernel
theorem dX12_circles_34 : decode cX12_circles 34 = .ok (.iload_n 2, 1) := by decide +kernel
theorem dX12_circles_35 : decode cX12_circles 35 = .ok (.iload_n 1, 1) := by decide +kernel
theorem dX12_circles_36 : decode cX12_circles 36 = .ok (.invokevirtual 386, 3) := by decide +kernel
theorem dX12_circles_39 : decode cX12_circles 39 = .ok (.ireturn, 1) := by decide +kernel
theorem dX12_circles_40 : decode cX12_circles 40 = .ok (.iconst 0, 1) := by decide +kernel
theorem dX12_circles_41 : decode cX12_circles 41 = .ok (.istore_n 3, 1) := by decide +kernel
theorem dX12_circles_42 : decode cX12_circles 42 = .ok (.iconst 0, 1) := by decide +kernel
theorem dX12_circles_43 : decode cX12_circles 43 = .ok (.istore 4, 2) := by decide +kernel
theorem dX12_circles_45 : decode cX12_circles 45 = .ok (.iconst 0, 1) := by decide +kernel
theorem dX12_circles_46 : decode cX12_circles 46 = .ok (.istore 5, 2) := by decide +kernel
theorem dX12_circles_48 : decode cX12_circles 48 = .ok (.iload 5, 2) := by decide +kernel
theorem dX12_circles_50 : decode cX12_circles 50 = .ok (.bipush 12, 2) := by decide +kernel
theorem dX12_circles_52 : decode cX12_circles 52 = .ok (.if_icmp .ge 47, 3) := by decide +kernel
theorem dX12_circles_55 : decode cX12_circles 55 = .ok (.aload_n 0, 1) := by decide +kernel
theorem dX12_circles_56 : decode cX12_circles 56 = .ok (.iload 5, 2) := by decide +kernel
theorem dX12_circles_58 : decode cX12_circles 58 = .ok (.invokevirtual 149, 3) := by decide +kernel
theorem dX12_circles_61 : decode cX12_circles 61 = .ok (.ifCond .eq 32, 3) := by decide +kernel
theorem dX12_circles_64 : decode cX12_circles 64 = .ok (.iload 4, 2) := by decide +kernel
theorem dX12_circles_66 : decode cX12_circles 66 = .ok (.iload 5, 2) := by decide +kernel
theorem dX12_circles_68 : decode cX12_circles 68 = .ok (.invokestatic 125, 3) := by decide +kernel
theorem dX12_circles_71 : decode cX12_circles 71 = .ok (.ifCond .eq 6, 3) := by decide +kernel
theorem dX12_circles_74 : decode cX12_circles 74 = .ok (.goto 19, 3) := by decide +kernel
theorem dX12_circles_77 : decode cX12_circles 77 = .ok (.iload 4, 2) := by decide +kernel
theorem dX12_circles_79 : decode cX12_circles 79 = .ok (.aload_n 0, 1) := by decide +kernel
theorem dX12_circles_80 : decode cX12_circles 80 = .ok (.iload 5, 2) := by decide +kernel
theorem dX12_circles_82 : decode cX12_circles 82 = .ok (.iload_n 1, 1) := by decide +kernel
theorem dX12_circles_83 : decode cX12_circles 83 = .ok (.invokevirtual 386, 3) := by decide +kernel
theorem dX12_circles_86 : decode cX12_circles 86 = .ok (.ior, 1) := by decide +kernel
theorem dX12_circles_87 : decode cX12_circles 87 = .ok (.istore 4, 2) := by decide +kernel
theorem dX12_circles_89 : decode cX12_circles 89 = .ok (.iload_n 3, 1) := by decide +kernel
theorem dX12_circles_90 : decode cX12_circles 90 = .ok (.iconst 1, 1) := by decide +kernel
theorem dX12_circles_91 : decode cX12_circles 91 = .ok (.iadd, 1) := by decide +kernel
theorem dX12_circles_92 : decode cX12_circles 92 = .ok (.istore_n 3, 1) := by decide +kernel
theorem dX12_circles_93 : decode cX12_circles 93 = .ok (.iinc 5 1, 3) := by decide +kernel
theorem dX12_circles_96 : decode cX12_circles 96 = .ok (.goto (-48), 3) := by decide +kernel
theorem dX12_circles_99 : decode cX12_circles 99 = .ok (.iload_n 3, 1) := by decide +kernel
theorem dX12_circles_100 : decode cX12_circles 100 = .ok (.ireturn, 1) := by decide +kernel
theorem dX12_groupOf_0 : decode cX12_groupOf 0 = .ok (.iconst 1, 1) := by decide +kernel
theorem dX12_groupOf_1 : decode cX12_groupOf 1 = .ok (.iload_n 1, 1) := by decide +kernel
theorem dX12_groupOf_2 : decode cX12_groupOf 2 = .ok (.ishl, 1) := by decide +kernel
theorem dX12_groupOf_3 : decode cX12_groupOf 3 = .ok (.istore_n 3, 1) := by decide +kernel
theorem dX12_groupOf_4 : decode cX12_groupOf 4 = .ok (.iconst 0, 1) := by decide +kernel
theorem dX12_groupOf_5 : decode cX12_groupOf 5 = .ok (.istore 4, 2) := by decide +kernel
theorem dX12_groupOf_7 : decode cX12_groupOf 7 = .ok (.iload_n 3, 1) := by decide +kernel
theorem dX12_groupOf_8 : decode cX12_groupOf 8 = .ok (.iload 4, 2) := by decide +kernel
theorem dX12_groupOf_10 : decode cX12_groupOf 10 = .ok (.if_icmp .eq 49, 3) := by decide +kernel
theorem dX12_groupOf_13 : decode cX12_groupOf 13 = .ok (.iload_n 3, 1) := by decide +kernel
theorem dX12_groupOf_14 : decode cX12_groupOf 14 = .ok (.istore 4, 2) := by decide +kernel
theorem dX12_groupOf_16 : decode cX12_groupOf 16 = .ok (.iconst 0, 1) := by decide +kernel
theorem dX12_groupOf_17 : decode cX12_groupOf 17 = .ok (.istore 5, 2) := by decide +kernel
theorem dX12_groupOf_19 : decode cX12_groupOf 19 = .ok (.iload 5, 2) := by decide +kernel
theorem dX12_groupOf_21 : decode cX12_groupOf 21 = .ok (.bipush 12, 2) := by decide +kernel
theorem dX12_groupOf_23 : decode cX12_groupOf 23 = .ok (.if_icmp .ge 33, 3) := by decide +kernel
theorem dX12_groupOf_26 : decode cX12_groupOf 26 = .ok (.iload 4, 2) := by decide +kernel
theorem dX12_groupOf_28 : decode cX12_groupOf 28 = .ok (.iload 5, 2) := by decide +kernel
theorem dX12_groupOf_30 : decode cX12_groupOf 30 = .ok (.invokestatic 125, 3) := by decide +kernel
theorem dX12_groupOf_33 : decode cX12_groupOf 33 = .ok (.ifCond .eq 17, 3) := by decide +kernel
theorem dX12_groupOf_36 : decode cX12_groupOf 36 = .ok (.iload_n 3, 1) := by decide +kernel
theorem dX12_groupOf_37 : decode cX12_groupOf 37 = .ok (.aload_n 0, 1) := by decide +kernel
theorem dX12_groupOf_38 : decode cX12_groupOf 38 = .ok (.getfield 19, 3) := by decide +kernel
theorem dX12_groupOf_41 : decode cX12_groupOf 41 = .ok (.iload 5, 2) := by decide +kernel
theorem dX12_groupOf_43 : decode cX12_groupOf 43 = .ok (.iaload, 1) := by decide +kernel
theorem dX12_groupOf_44 : decode cX12_groupOf 44 = .ok (.iload_n 2, 1) := by decide +kernel
theorem dX12_groupOf_45 : decode cX12_groupOf 45 = .ok (.iconst (-1), 1) := by decide +kernel
theorem dX12_groupOf_46 : decode cX12_groupOf 46 = .ok (.ixor, 1) := by decide +kernel
theorem dX12_groupOf_47 : decode cX12_groupOf 47 = .ok (.iand, 1) := by decide +kernel
theorem dX12_groupOf_48 : decode cX12_groupOf 48 = .ok (.ior, 1) := by decide +kernel
theorem dX12_groupOf_49 : decode cX12_groupOf 49 = .ok (.istore_n 3, 1) := by decide +kernel
theorem dX12_groupOf_50 : decode cX12_groupOf 50 = .ok (.iinc 5 1, 3) := by decide +kernel
theorem dX12_groupOf_53 : decode cX12_groupOf 53 = .ok (.goto (-34), 3) := by decide +kernel
theorem dX12_groupOf_56 : decode cX12_groupOf 56 = .ok (.goto (-49), 3) := by decide +kernel
theorem dX12_groupOf_59 : decode cX12_groupOf 59 = .ok (.iload_n 3, 1) := by decide +kernel
theorem dX12_groupOf_60 : decode cX12_groupOf 60 = .ok (.ireturn, 1) := by decide +kernel
theorem dX12_isKeystone_0 : decode cX12_isKeystone 0 = .ok (.iconst 0, 1) := by decide +kernel
theorem dX12_isKeystone_1 : decode cX12_isKeystone 1 = .ok (.istore_n 2, 1) := by decide +kernel
theorem dX12_isKeystone_2 : decode cX12_isKeystone 2 = .ok (.iload_n 2, 1) := by decide +kernel
theorem dX12_isKeystone_3 : decode cX12_isKeystone 3 = .ok (.bipush 12, 2) := by decide +kernel
theorem dX12_isKeystone_5 : decode cX12_isKeystone 5 = .ok (.if_icmp .ge 52, 3) := by decide +kernel
theorem dX12_isKeystone_8 : decode cX12_isKeystone 8 = .ok (.iload_n 2, 1) := by decide +kernel
theorem dX12_isKeystone_9 : decode cX12_isKeystone 9 = .ok (.iload_n 1, 1) := by decide +kernel
theorem dX12_isKeystone_10 : decode cX12_isKeystone 10 = .ok (.if_icmp .eq 41, 3) := by decide +kernel
theorem dX12_isKeystone_13 : decode cX12_isKeystone 13 = .ok (.aload_n 0, 1) := by decide +kernel
theorem dX12_isKeystone_14 : decode cX12_isKeystone 14 = .ok (.getfield 19, 3) := by decide +kernel
theorem dX12_isKeystone_17 : decode cX12_isKeystone 17 = .ok (.iload_n 1, 1) := by decide +kernel
theorem dX12_isKeystone_18 : decode cX12_isKeystone 18 = .ok (.iaload, 1) := by decide +kernel
theorem dX12_isKeystone_19 : decode cX12_isKeystone 19 = .ok (.iload_n 2, 1) := by decide +kernel
theorem dX12_isKeystone_20 : decode cX12_isKeystone 20 = .ok (.invokestatic 125, 3) := by decide +kernel
theorem dX12_isKeystone_23 : decode cX12_isKeystone 23 = .ok (.ifCond .eq 28, 3) := by decide +kernel
theorem dX12_isKeystone_26 : decode cX12_isKeystone 26 = .ok (.aload_n 0, 1) := by decide +kernel
theorem dX12_isKeystone_27 : decode cX12_isKeystone 27 = .ok (.iload_n 1, 1) := by decide +kernel
theorem dX12_isKeystone_28 : decode cX12_isKeystone 28 = .ok (.iconst 0, 1) := by decide +kernel
theorem dX12_isKeystone_29 : decode cX12_isKeystone 29 = .ok (.invokevirtual 389, 3) := by decide +kernel
theorem dX12_isKeystone_32 : decode cX12_isKeystone 32 = .ok (.iconst 1, 1) := by decide +kernel
theorem dX12_isKeystone_33 : decode cX12_isKeystone 33 = .ok (.iload_n 1, 1) := by decide +kernel
theorem dX12_isKeystone_34 : decode cX12_isKeystone 34 = .ok (.ishl, 1) := by decide +kernel
theorem dX12_isKeystone_35 : decode cX12_isKeystone 35 = .ok (.iconst (-1), 1) := by decide +kernel
theorem dX12_isKeystone_36 : decode cX12_isKeystone 36 = .ok (.ixor, 1) := by decide +kernel
theorem dX12_isKeystone_37 : decode cX12_isKeystone 37 = .ok (.iand, 1) := by decide +kernel
theorem dX12_isKeystone_38 : decode cX12_isKeystone 38 = .ok (.aload_n 0, 1) := by decide +kernel
theorem dX12_isKeystone_39 : decode cX12_isKeystone 39 = .ok (.iload_n 2, 1) := by decide +kernel
theorem dX12_isKeystone_40 : decode cX12_isKeystone 40 = .ok (.iconst 1, 1) := by decide +kernel
theorem dX12_isKeystone_41 : decode cX12_isKeystone 41 = .ok (.iload_n 1, 1) := by decide +kernel
theorem dX12_isKeystone_42 : decode cX12_isKeystone 42 = .ok (.ishl, 1) := by decide +kernel
theorem dX12_isKeystone_43 : decode cX12_isKeystone 43 = .ok (.invokevirtual 389, 3) := by decide +kernel
theorem dX12_isKeystone_46 : decode cX12_isKeystone 46 = .ok (.if_icmp .eq 5, 3) := by decide +kernel
theorem dX12_isKeystone_49 : decode cX12_isKeystone 49 = .ok (.iconst 1, 1) := by decide +kernel
theorem dX12_isKeystone_50 : decode cX12_isKeystone 50 = .ok (.ireturn, 1) := by decide +kernel
theorem dX12_isKeystone_51 : decode cX12_isKeystone 51 = .ok (.iinc 2 1, 3) := by decide +kernel
theorem dX12_isKeystone_54 : decode cX12_isKeystone 54 = .ok (.goto (-52), 3) := by decide +kernel
theorem dX12_isKeystone_57 : decode cX12_isKeystone 57 = .ok (.iconst 0, 1) := by decide +kernel
theorem dX12_isKeystone_58 : decode cX12_isKeystone 58 = .ok (.ireturn, 1) := by decide +kernel
theorem dX12_keystones_0 : decode cX12_keystones 0 = .ok (.iconst 0, 1) := by decide +kernel
theorem dX12_keystones_1 : decode cX12_keystones 1 = .ok (.istore_n 1, 1) := by decide +kernel
theorem dX12_keystones_2 : decode cX12_keystones 2 = .ok (.iconst 0, 1) := by decide +kernel
theorem dX12_keystones_3 : decode cX12_keystones 3 = .ok (.istore_n 2, 1) := by decide +kernel
theorem dX12_keystones_4 : decode cX12_keystones 4 = .ok (.iload_n 2, 1) := by decide +kernel
theorem dX12_keystones_5 : decode cX12_keystones 5 = .ok (.bipush 12, 2) := by decide +kernel
theorem dX12_keystones_7 : decode cX12_keystones 7 = .ok (.if_icmp .ge 31, 3) := by decide +kernel
theorem dX12_keystones_10 : decode cX12_keystones 10 = .ok (.aload_n 0, 1) := by decide +kernel
theorem dX12_keystones_11 : decode cX12_keystones 11 = .ok (.iload_n 2, 1) := by decide +kernel
theorem dX12_keystones_12 : decode cX12_keystones 12 = .ok (.invokevirtual 149, 3) := by decide +kernel
theorem dX12_keystones_15 : decode cX12_keystones 15 = .ok (.ifCond .eq 17, 3) := by decide +kernel
theorem dX12_keystones_18 : decode cX12_keystones 18 = .ok (.aload_n 0, 1) := by decide +kernel
theorem dX12_keystones_19 : decode cX12_keystones 19 = .ok (.iload_n 2, 1) := by decide +kernel
theorem dX12_keystones_20 : decode cX12_keystones 20 = .ok (.invokevirtual 392, 3) := by decide +kernel
theorem dX12_keystones_23 : decode cX12_keystones 23 = .ok (.ifCond .eq 9, 3) := by decide +kernel
theorem dX12_keystones_26 : decode cX12_keystones 26 = .ok (.iload_n 1, 1) := by decide +kernel
theorem dX12_keystones_27 : decode cX12_keystones 27 = .ok (.iconst 1, 1) := by decide +kernel
theorem dX12_keystones_28 : decode cX12_keystones 28 = .ok (.iload_n 2, 1) := by decide +kernel
theorem dX12_keystones_29 : decode cX12_keystones 29 = .ok (.ishl, 1) := by decide +kernel
theorem dX12_keystones_30 : decode cX12_keystones 30 = .ok (.ior, 1) := by decide +kernel
theorem dX12_keystones_31 : decode cX12_keystones 31 = .ok (.istore_n 1, 1) := by decide +kernel
theorem dX12_keystones_32 : decode cX12_keystones 32 = .ok (.iinc 2 1, 3) := by decide +kernel
theorem dX12_keystones_35 : decode cX12_keystones 35 = .ok (.goto (-31), 3) := by decide +kernel
theorem dX12_keystones_38 : decode cX12_keystones 38 = .ok (.iload_n 1, 1) := by decide +kernel
theorem dX12_keystones_39 : decode cX12_keystones 39 = .ok (.ireturn, 1) := by decide +kernel
theorem dX12_steps_0 : decode cX12_steps 0 = .ok (.aload_n 0, 1) := by decide +kernel
theorem dX12_steps_1 : decode cX12_steps 1 = .ok (.iload_n 1, 1) := by decide +kernel
theorem dX12_steps_2 : decode cX12_steps 2 = .ok (.invokevirtual 149, 3) := by decide +kernel
theorem dX12_steps_5 : decode cX12_steps 5 = .ok (.ifCond .eq 11, 3) := by decide +kernel
theorem dX12_steps_8 : decode cX12_steps 8 = .ok (.aload_n 0, 1) := by decide +kernel
theorem dX12_steps_9 : decode cX12_steps 9 = .ok (.iload_n 2, 1) := by decide +kernel
theorem dX12_steps_10 : decode cX12_steps 10 = .ok (.invokevirtual 149, 3) := by decide +kernel
theorem dX12_steps_13 : decode cX12_steps 13 = .ok (.ifCond .ne 5, 3) := by decide +kernel
theorem dX12_steps_16 : decode cX12_steps 16 = .ok (.iconst (-1), 1) := by decide +kernel
theorem dX12_steps_17 : decode cX12_steps 17 = .ok (.ireturn, 1) := by decide +kernel
theorem dX12_steps_18 : decode cX12_steps 18 = .ok (.iconst 1, 1) := by decide +kernel
theorem dX12_steps_19 : decode cX12_steps 19 = .ok (.iload_n 1, 1) := by decide +kernel
theorem dX12_steps_20 : decode cX12_steps 20 = .ok (.ishl, 1) := by decide +kernel
theorem dX12_steps_21 : decode cX12_steps 21 = .ok (.istore_n 3, 1) := by decide +kernel
theorem dX12_steps_22 : decode cX12_steps 22 = .ok (.iconst 0, 1) := by decide +kernel
theorem dX12_steps_23 : decode cX12_steps 23 = .ok (.istore 4, 2) := by decide +kernel
theorem dX12_steps_25 : decode cX12_steps 25 = .ok (.iconst 0, 1) := by decide +kernel
theorem dX12_steps_26 : decode cX12_steps 26 = .ok (.istore 5, 2) := by decide +kernel
theorem dX12_steps_28 : decode cX12_steps 28 = .ok (.iload_n 3, 1) := by decide +kernel
theorem dX12_steps_29 : decode cX12_steps 29 = .ok (.iload_n 2, 1) := by decide +kernel
theorem dX12_steps_30 : decode cX12_steps 30 = .ok (.invokestatic 125, 3) := by decide +kernel
theorem dX12_steps_33 : decode cX12_steps 33 = .ok (.ifCond .ne 60, 3) := by decide +kernel
theorem dX12_steps_36 : decode cX12_steps 36 = .ok (.iload_n 3, 1) := by decide +kernel
theorem dX12_steps_37 : decode cX12_steps 37 = .ok (.iload 5, 2) := by decide +kernel
theorem dX12_steps_39 : decode cX12_steps 39 = .ok (.if_icmp .ne 6, 3) := by decide +kernel
theorem dX12_steps_42 : decode cX12_steps 42 = .ok (.bipush (-2), 2) := by decide +kernel
theorem dX12_steps_44 : decode cX12_steps 44 = .ok (.ireturn, 1) := by decide +kernel
theorem dX12_steps_45 : decode cX12_steps 45 = .ok (.iload_n 3, 1) := by decide +kernel
theorem dX12_steps_46 : decode cX12_steps 46 = .ok (.istore 5, 2) := by decide +kernel
theorem dX12_steps_48 : decode cX12_steps 48 = .ok (.iload 4, 2) := by decide +kernel
theorem dX12_steps_50 : decode cX12_steps 50 = .ok (.iconst 1, 1) := by decide +kernel
theorem dX12_steps_51 : decode cX12_steps 51 = .ok (.iadd, 1) := by decide +kernel
theorem dX12_steps_52 : decode cX12_steps 52 = .ok (.istore 4, 2) := by decide +kernel
theorem dX12_steps_54 : decode cX12_steps 54 = .ok (.iconst 0, 1) := by decide +kernel
theorem dX12_steps_55 : decode cX12_steps 55 = .ok (.istore 6, 2) := by decide +kernel
theorem dX12_steps_57 : decode cX12_steps 57 = .ok (.iload 6, 2) := by decide +kernel
theorem dX12_steps_59 : decode cX12_steps 59 = .ok (.bipush 12, 2) := by decide +kernel
theorem dX12_steps_61 : decode cX12_steps 61 = .ok (.if_icmp .ge 29, 3) := by decide +kernel
theorem dX12_steps_64 : decode cX12_steps 64 = .ok (.iload 5, 2) := by decide +kernel
theorem dX12_steps_66 : decode cX12_steps 66 = .ok (.iload 6, 2) := by decide +kernel
theorem dX12_steps_68 : decode cX12_steps 68 = .ok (.invokestatic 125, 3) := by decide +kernel
theorem dX12_steps_71 : decode cX12_steps 71 = .ok (.ifCond .eq 13, 3) := by decide +kernel
theorem dX12_steps_74 : decode cX12_steps 74 = .ok (.iload_n 3, 1) := by decide +kernel
theorem dX12_steps_75 : decode cX12_steps 75 = .ok (.aload_n 0, 1) := by decide +kernel
theorem dX12_steps_76 : decode cX12_steps 76 = .ok (.getfield 19, 3) := by decide +kernel
theorem dX12_steps_79 : decode cX12_steps 79 = .ok (.iload 6, 2) := by decide +kernel
theorem dX12_steps_81 : decode cX12_steps 81 = .ok (.iaload, 1) := by decide +kernel
theorem dX12_steps_82 : decode cX12_steps 82 = .ok (.ior, 1) := by decide +kernel
theorem dX12_steps_83 : decode cX12_steps 83 = .ok (.istore_n 3, 1) := by decide +kernel
theorem dX12_steps_84 : decode cX12_steps 84 = .ok (.iinc 6 1, 3) := by decide +kernel
theorem dX12_steps_87 : decode cX12_steps 87 = .ok (.goto (-30), 3) := by decide +kernel
theorem dX12_steps_90 : decode cX12_steps 90 = .ok (.goto (-62), 3) := by decide +kernel
theorem dX12_steps_93 : decode cX12_steps 93 = .ok (.iload 4, 2) := by decide +kernel
theorem dX12_steps_95 : decode cX12_steps 95 = .ok (.ireturn, 1) := by decide +kernel
theorem dX12_bounds_0 : decode cX12_bounds 0 = .ok (.aload_n 0, 1) := by decide +kernel
theorem dX12_bounds_1 : decode cX12_bounds 1 = .ok (.iconst 0, 1) := by decide +kernel
theorem dX12_bounds_2 : decode cX12_bounds 2 = .ok (.putfield 395, 3) := by decide +kernel
theorem dX12_bounds_5 : decode cX12_bounds 5 = .ok (.aload_n 0, 1) := by decide +kernel
theorem dX12_bounds_6 : decode cX12_bounds 6 = .ok (.bipush 99, 2) := by decide +kernel
theorem dX12_bounds_8 : decode cX12_bounds 8 = .ok (.putfield 398, 3) := by decide +kernel
theorem dX12_bounds_11 : decode cX12_bounds 11 = .ok (.iconst 0, 1) := by decide +kernel
theorem dX12_bounds_12 : decode cX12_bounds 12 = .ok (.istore_n 3, 1) := by decide +kernel
theorem dX12_bounds_13 : decode cX12_bounds 13 = .ok (.iload_n 3, 1) := by decide +kernel
theorem dX12_bounds_14 : decode cX12_bounds 14 = .ok (.iload_n 1, 1) := by decide +kernel
theorem dX12_bounds_15 : decode cX12_bounds 15 = .ok (.if_icmp .ge 113, 3) := by decide +kernel
theorem dX12_bounds_18 : decode cX12_bounds 18 = .ok (.aload_n 0, 1) := by decide +kernel
theorem dX12_bounds_19 : decode cX12_bounds 19 = .ok (.iconst 2, 1) := by decide +kernel
theorem dX12_bounds_20 : decode cX12_bounds 20 = .ok (.iload_n 3, 1) := by decide +kernel
theorem dX12_bounds_21 : decode cX12_bounds 21 = .ok (.imul, 1) := by decide +kernel
theorem dX12_bounds_22 : decode cX12_bounds 22 = .ok (.invokevirtual 401, 3) := by decide +kernel
theorem dX12_bounds_25 : decode cX12_bounds 25 = .ok (.istore 4, 2) := by decide +kernel
theorem dX12_bounds_27 : decode cX12_bounds 27 = .ok (.aload_n 0, 1) := by decide +kernel
theorem dX12_bounds_28 : decode cX12_bounds 28 = .ok (.iload 4, 2) := by decide +kernel
theorem dX12_bounds_30 : decode cX12_bounds 30 = .ok (.invokevirtual 139, 3) := by decide +kernel
theorem dX12_bounds_33 : decode cX12_bounds 33 = .ok (.iload_n 2, 1) := by decide +kernel
theorem dX12_bounds_34 : decode cX12_bounds 34 = .ok (.if_icmp .ne 7, 3) := by decide +kernel
theorem dX12_bounds_37 : decode cX12_bounds 37 = .ok (.iconst 1, 1) := by decide +kernel
theorem dX12_bounds_38 : decode cX12_bounds 38 = .ok (.goto 4, 3) := by decide +kernel
theorem dX12_bounds_41 : decode cX12_bounds 41 = .ok (.iconst 0, 1) := by decide +kernel
theorem dX12_bounds_42 : decode cX12_bounds 42 = .ok (.istore 5, 2) := by decide +kernel
theorem dX12_bounds_44 : decode cX12_bounds 44 = .ok (.aload_n 0, 1) := by decide +kernel
theorem dX12_bounds_45 : decode cX12_bounds 45 = .ok (.iconst 2, 1) := by decide +kernel
theorem dX12_bounds_46 : decode cX12_bounds 46 = .ok (.iload_n 3, 1) := by decide +kernel
theorem dX12_bounds_47 : decode cX12_bounds 47 = .ok (.imul, 1) := by decide +kernel
theorem dX12_bounds_48 : decode cX12_bounds 48 = .ok (.iconst 1, 1) := by decide +kernel
theorem dX12_bounds_49 : decode cX12_bounds 49 = .ok (.iadd, 1) := by decide +kernel
theorem dX12_bounds_50 : decode cX12_bounds 50 = .ok (.invokevirtual 401, 3) := by decide +kernel
theorem dX12_bounds_53 : decode cX12_bounds 53 = .ok (.iconst 1, 1) := by decide +kernel
theorem dX12_bounds_54 : decode cX12_bounds 54 = .ok (.if_icmp .ne 33, 3) := by decide +kernel
theorem dX12_bounds_57 : decode cX12_bounds 57 = .ok (.aload_n 0, 1) := by decide +kernel
theorem dX12_bounds_58 : decode cX12_bounds 58 = .ok (.iload 5, 2) := by decide +kernel
theorem dX12_bounds_60 : decode cX12_bounds 60 = .ok (.ifCond .eq 20, 3) := by decide +kernel
theorem dX12_bounds_63 : decode cX12_bounds 63 = .ok (.aload_n 0, 1) := by decide +kernel
theorem dX12_bounds_64 : decode cX12_bounds 64 = .ok (.getfield 398, 3) := by decide +kernel
theorem dX12_bounds_67 : decode cX12_bounds 67 = .ok (.aload_n 0, 1) := by decide +kernel
theorem dX12_bounds_68 : decode cX12_bounds 68 = .ok (.iload 4, 2) := by decide +kernel
theorem dX12_bounds_70 : decode cX12_bounds 70 = .ok (.iload_n 2, 1) := by decide +kernel
theorem dX12_bounds_71 : decode cX12_bounds 71 = .ok (.invokevirtual 132, 3) := by decide +kernel
theorem dX12_bounds_74 : decode cX12_bounds 74 = .ok (.invokestatic 110, 3) := by decide +kernel
theorem dX12_bounds_77 : decode cX12_bounds 77 = .ok (.goto 4, 3) := by decide +kernel
theorem dX12_bounds_80 : decode cX12_bounds 80 = .ok (.iconst (-1), 1) := by decide +kernel
theorem dX12_bounds_81 : decode cX12_bounds 81 = .ok (.putfield 398, 3) := by decide +kernel
theorem dX12_bounds_84 : decode cX12_bounds 84 = .ok (.goto 28, 3) := by decide +kernel
theorem dX12_bounds_87 : decode cX12_bounds 87 = .ok (.iload 5, 2) := by decide +kernel
theorem dX12_bounds_89 : decode cX12_bounds 89 = .ok (.ifCond .eq 23, 3) := by decide +kernel
theorem dX12_bounds_92 : decode cX12_bounds 92 = .ok (.aload_n 0, 1) := by decide +kernel
theorem dX12_bounds_93 : decode cX12_bounds 93 = .ok (.aload_n 0, 1) := by decide +kernel
theorem dX12_bounds_94 : decode cX12_bounds 94 = .ok (.getfield 395, 3) := by decide +kernel
theorem dX12_bounds_97 : decode cX12_bounds 97 = .ok (.aload_n 0, 1) := by decide +kernel
theorem dX12_bounds_98 : decode cX12_bounds 98 = .ok (.iload 4, 2) := by decide +kernel
theorem dX12_bounds_100 : decode cX12_bounds 100 = .ok (.iload_n 2, 1) := by decide +kernel
theorem dX12_bounds_101 : decode cX12_bounds 101 = .ok (.invokevirtual 132, 3) := by decide +kernel
theorem dX12_bounds_104 : decode cX12_bounds 104 = .ok (.iconst 1, 1) := by decide +kernel
theorem dX12_bounds_105 : decode cX12_bounds 105 = .ok (.iadd, 1) := by decide +kernel
theorem dX12_bounds_106 : decode cX12_bounds 106 = .ok (.invokestatic 114, 3) := by decide +kernel
theorem dX12_bounds_109 : decode cX12_bounds 109 = .ok (.putfield 395, 3) := by decide +kernel
theorem dX12_bounds_112 : decode cX12_bounds 112 = .ok (.aload_n 0, 1) := by decide +kernel
theorem dX12_bounds_113 : decode cX12_bounds 113 = .ok (.getfield 398, 3) := by decide +kernel
theorem dX12_bounds_116 : decode cX12_bounds 116 = .ok (.iconst (-1), 1) := by decide +kernel
theorem dX12_bounds_117 : decode cX12_bounds 117 = .ok (.if_icmp .ne 5, 3) := by decide +kernel
theorem dX12_bounds_120 : decode cX12_bounds 120 = .ok (.iconst 0, 1) := by decide +kernel
theorem dX12_bounds_121 : decode cX12_bounds 121 = .ok (.ireturn, 1) := by decide +kernel
theorem dX12_bounds_122 : decode cX12_bounds 122 = .ok (.iinc 3 1, 3) := by decide +kernel
theorem dX12_bounds_125 : decode cX12_bounds 125 = .ok (.goto (-112), 3) := by decide +kernel
theorem dX12_bounds_128 : decode cX12_bounds 128 = .ok (.aload_n 0, 1) := by decide +kernel
theorem dX12_bounds_129 : decode cX12_bounds 129 = .ok (.getfield 395, 3) := by decide +kernel
theorem dX12_bounds_132 : decode cX12_bounds 132 = .ok (.aload_n 0, 1) := by decide +kernel
theorem dX12_bounds_133 : decode cX12_bounds 133 = .ok (.getfield 398, 3) := by decide +kernel
theorem dX12_bounds_136 : decode cX12_bounds 136 = .ok (.if_icmp .gt 7, 3) := by decide +kernel
theorem dX12_bounds_139 : decode cX12_bounds 139 = .ok (.iconst 1, 1) := by decide +kernel
theorem dX12_bounds_140 : decode cX12_bounds 140 = .ok (.goto 4, 3) := by decide +kernel
theorem dX12_bounds_143 : decode cX12_bounds 143 = .ok (.iconst 0, 1) := by decide +kernel
theorem dX12_bounds_144 : decode cX12_bounds 144 = .ok (.ireturn, 1) := by decide +kernel
theorem dX12_guess_0 : decode cX12_guess 0 = .ok (.iload_n 1, 1) := by decide +kernel
theorem dX12_guess_1 : decode cX12_guess 1 = .ok (.iconst 1, 1) := by decide +kernel
theorem dX12_guess_2 : decode cX12_guess 2 = .ok (.bipush 12, 2) := by decide +kernel
theorem dX12_guess_4 : decode cX12_guess 4 = .ok (.invokestatic 117, 3) := by decide +kernel
theorem dX12_guess_7 : decode cX12_guess 7 = .ok (.ifCond .eq 40, 3) := by decide +kernel
theorem dX12_guess_10 : decode cX12_guess 10 = .ok (.iload_n 2, 1) := by decide +kernel
theorem dX12_guess_11 : decode cX12_guess 11 = .ok (.iconst 0, 1) := by decide +kernel
theorem dX12_guess_12 : decode cX12_guess 12 = .ok (.bipush 15, 2) := by decide +kernel
theorem dX12_guess_14 : decode cX12_guess 14 = .ok (.invokestatic 117, 3) := by decide +kernel
theorem dX12_guess_17 : decode cX12_guess 17 = .ok (.ifCond .ne 20, 3) := by decide +kernel
theorem dX12_guess_20 : decode cX12_guess 20 = .ok (.iload_n 2, 1) := by decide +kernel
theorem dX12_guess_21 : decode cX12_guess 21 = .ok (.bipush 20, 2) := by decide +kernel
theorem dX12_guess_23 : decode cX12_guess 23 = .ok (.bipush 35, 2) := by decide +kernel
theorem dX12_guess_25 : decode cX12_guess 25 = .ok (.invokestatic 117, 3) := by decide +kernel
theorem dX12_guess_28 : decode cX12_guess 28 = .ok (.ifCond .ne 9, 3) := by decide +kernel
theorem dX12_guess_31 : decode cX12_guess 31 = .ok (.iload_n 2, 1) := by decide +kernel
theorem dX12_guess_32 : decode cX12_guess 32 = .ok (.bipush 100, 2) := by decide +kernel
theorem dX12_guess_34 : decode cX12_guess 34 = .ok (.if_icmp .ne 13, 3) := by decide +kernel
theorem dX12_guess_37 : decode cX12_guess 37 = .ok (.iconst 2, 1) := by decide +kernel
theorem dX12_guess_38 : decode cX12_guess 38 = .ok (.iload_n 1, 1) := by decide +kernel
theorem dX12_guess_39 : decode cX12_guess 39 = .ok (.imul, 1) := by decide +kernel
theorem dX12_guess_40 : decode cX12_guess 40 = .ok (.aload_n 0, 1) := by decide +kernel
theorem dX12_guess_41 : decode cX12_guess 41 = .ok (.getfield 152, 3) := by decide +kernel
theorem dX12_guess_44 : decode cX12_guess 44 = .ok (.if_icmp .le 5, 3) := by decide +kernel
theorem dX12_guess_47 : decode cX12_guess 47 = .ok (.iconst (-1), 1) := by decide +kernel
theorem dX12_guess_48 : decode cX12_guess 48 = .ok (.ireturn, 1) := by decide +kernel
theorem dX12_guess_49 : decode cX12_guess 49 = .ok (.aload_n 0, 1) := by decide +kernel
theorem dX12_guess_50 : decode cX12_guess 50 = .ok (.iconst 0, 1) := by decide +kernel
theorem dX12_guess_51 : decode cX12_guess 51 = .ok (.putfield 152, 3) := by decide +kernel
theorem dX12_guess_54 : decode cX12_guess 54 = .ok (.iconst 0, 1) := by decide +kernel
theorem dX12_guess_55 : decode cX12_guess 55 = .ok (.istore_n 3, 1) := by decide +kernel
theorem dX12_guess_56 : decode cX12_guess 56 = .ok (.iload_n 3, 1) := by decide +kernel
theorem dX12_guess_57 : decode cX12_guess 57 = .ok (.iload_n 1, 1) := by decide +kernel
theorem dX12_guess_58 : decode cX12_guess 58 = .ok (.if_icmp .ge 39, 3) := by decide +kernel
theorem dX12_guess_61 : decode cX12_guess 61 = .ok (.aload_n 0, 1) := by decide +kernel
theorem dX12_guess_62 : decode cX12_guess 62 = .ok (.aload_n 0, 1) := by decide +kernel
theorem dX12_guess_63 : decode cX12_guess 63 = .ok (.iconst 2, 1) := by decide +kernel
theorem dX12_guess_64 : decode cX12_guess 64 = .ok (.iload_n 3, 1) := by decide +kernel
theorem dX12_guess_65 : decode cX12_guess 65 = .ok (.imul, 1) := by decide +kernel
theorem dX12_guess_66 : decode cX12_guess 66 = .ok (.invokevirtual 401, 3) := by decide +kernel
theorem dX12_guess_69 : decode cX12_guess 69 = .ok (.invokevirtual 149, 3) := by decide +kernel
theorem dX12_guess_72 : decode cX12_guess 72 = .ok (.ifCond .eq 16, 3) := by decide +kernel
theorem dX12_guess_75 : decode cX12_guess 75 = .ok (.aload_n 0, 1) := by decide +kernel
theorem dX12_guess_76 : decode cX12_guess 76 = .ok (.iconst 2, 1) := by decide +kernel
theorem dX12_guess_77 : decode cX12_guess 77 = .ok (.iload_n 3, 1) := by decide +kernel
theorem dX12_guess_78 : decode cX12_guess 78 = .ok (.imul, 1) := by decide +kernel
theorem dX12_guess_79 : decode cX12_guess 79 = .ok (.iconst 1, 1) := by decide +kernel
theorem dX12_guess_80 : decode cX12_guess 80 = .ok (.iadd, 1) := by decide +kernel
theorem dX12_guess_81 : decode cX12_guess 81 = .ok (.invokevirtual 401, 3) := by decide +kernel
theorem dX12_guess_84 : decode cX12_guess 84 = .ok (.iconst 1, 1) := by decide +kernel
theorem dX12_guess_85 : decode cX12_guess 85 = .ok (.if_icmp .le 6, 3) := by decide +kernel
theorem dX12_guess_88 : decode cX12_guess 88 = .ok (.bipush (-3), 2) := by decide +kernel
theorem dX12_guess_90 : decode cX12_guess 90 = .ok (.ireturn, 1) := by decide +kernel
theorem dX12_guess_91 : decode cX12_guess 91 = .ok (.iinc 3 1, 3) := by decide +kernel
theorem dX12_guess_94 : decode cX12_guess 94 = .ok (.goto (-38), 3) := by decide +kernel
theorem dX12_guess_97 : decode cX12_guess 97 = .ok (.iload_n 2, 1) := by decide +kernel
theorem dX12_guess_98 : decode cX12_guess 98 = .ok (.bipush 100, 2) := by decide +kernel
theorem dX12_guess_100 : decode cX12_guess 100 = .ok (.if_icmp .eq 46, 3) := by decide +kernel
theorem dX12_guess_103 : decode cX12_guess 103 = .ok (.aload_n 0, 1) := by decide +kernel
theorem dX12_guess_104 : decode cX12_guess 104 = .ok (.iload_n 1, 1) := by decide +kernel
theorem dX12_guess_105 : decode cX12_guess 105 = .ok (.iload_n 2, 1) := by decide +kernel
theorem dX12_guess_106 : decode cX12_guess 106 = .ok (.bipush 20, 2) := by decide +kernel
theorem dX12_guess_108 : decode cX12_guess 108 = .ok (.if_icmp .ge 7, 3) := by decide +kernel
theorem dX12_guess_111 : decode cX12_guess 111 = .ok (.iload_n 2, 1) := by decide +kernel
theorem dX12_guess_112 : decode cX12_guess 112 = .ok (.goto 7, 3) := by decide +kernel
theorem dX12_guess_115 : decode cX12_guess 115 = .ok (.iload_n 2, 1) := by decide +kernel
theorem dX12_guess_116 : decode cX12_guess 116 = .ok (.bipush 20, 2) := by decide +kernel
theorem dX12_guess_118 : decode cX12_guess 118 = .ok (.isub, 1) := by decide +kernel
theorem dX12_guess_119 : decode cX12_guess 119 = .ok (.invokevirtual 404, 3) := by decide +kernel
theorem dX12_guess_122 : decode cX12_guess 122 = .ok (.ifCond .ne 6, 3) := by decide +kernel
theorem dX12_guess_125 : decode cX12_guess 125 = .ok (.bipush (-2), 2) := by decide +kernel
theorem dX12_guess_127 : decode cX12_guess 127 = .ok (.ireturn, 1) := by decide +kernel
theorem dX12_guess_128 : decode cX12_guess 128 = .ok (.iload_n 2, 1) := by decide +kernel
theorem dX12_guess_129 : decode cX12_guess 129 = .ok (.bipush 20, 2) := by decide +kernel
theorem dX12_guess_131 : decode cX12_guess 131 = .ok (.if_icmp .ge 10, 3) := by decide +kernel
theorem dX12_guess_134 : decode cX12_guess 134 = .ok (.aload_n 0, 1) := by decide +kernel
theorem dX12_guess_135 : decode cX12_guess 135 = .ok (.getfield 395, 3) := by decide +kernel
theorem dX12_guess_138 : decode cX12_guess 138 = .ok (.goto 7, 3) := by decide +kernel
theorem dX12_guess_141 : decode cX12_guess 141 = .ok (.aload_n 0, 1) := by decide +kernel
theorem dX12_guess_142 : decode cX12_guess 142 = .ok (.getfield 398, 3) := by decide +kernel
theorem dX12_guess_145 : decode cX12_guess 145 = .ok (.ireturn, 1) := by decide +kernel
theorem dX12_guess_146 : decode cX12_guess 146 = .ok (.iconst 0, 1) := by decide +kernel
theorem dX12_guess_147 : decode cX12_guess 147 = .ok (.istore_n 3, 1) := by decide +kernel
theorem dX12_guess_148 : decode cX12_guess 148 = .ok (.iconst 0, 1) := by decide +kernel
theorem dX12_guess_149 : decode cX12_guess 149 = .ok (.istore 4, 2) := by decide +kernel
theorem dX12_guess_151 : decode cX12_guess 151 = .ok (.iload 4, 2) := by decide +kernel
theorem dX12_guess_153 : decode cX12_guess 153 = .ok (.bipush 16, 2) := by decide +kernel
theorem dX12_guess_155 : decode cX12_guess 155 = .ok (.if_icmp .ge 26, 3) := by decide +kernel
theorem dX12_guess_158 : decode cX12_guess 158 = .ok (.aload_n 0, 1) := by decide +kernel
theorem dX12_guess_159 : decode cX12_guess 159 = .ok (.iload_n 1, 1) := by decide +kernel
theorem dX12_guess_160 : decode cX12_guess 160 = .ok (.iload 4, 2) := by decide +kernel
theorem dX12_guess_162 : decode cX12_guess 162 = .ok (.invokevirtual 404, 3) := by decide +kernel
theorem dX12_guess_165 : decode cX12_guess 165 = .ok (.ifCond .eq 10, 3) := by decide +kernel
theorem dX12_guess_168 : decode cX12_guess 168 = .ok (.iload_n 3, 1) := by decide +kernel
theorem dX12_guess_169 : decode cX12_guess 169 = .ok (.iconst 1, 1) := by decide +kernel
theorem dX12_guess_170 : decode cX12_guess 170 = .ok (.iload 4, 2) := by decide +kernel
theorem dX12_guess_172 : decode cX12_guess 172 = .ok (.ishl, 1) := by decide +kernel
theorem dX12_guess_173 : decode cX12_guess 173 = .ok (.ior, 1) := by decide +kernel
theorem dX12_guess_174 : decode cX12_guess 174 = .ok (.istore_n 3, 1) := by decide +kernel
theorem dX12_guess_175 : decode cX12_guess 175 = .ok (.iinc 4 1, 3) := by decide +kernel
theorem dX12_guess_178 : decode cX12_guess 178 = .ok (.goto (-27), 3) := by decide +kernel
theorem dX12_guess_181 : decode cX12_guess 181 = .ok (.iload_n 3, 1) := by decide +kernel
theorem dX12_guess_182 : decode cX12_guess 182 = .ok (.ireturn, 1) := by decide +kernel
theorem dX12_leaves_0 : decode cX12_leaves 0 = .ok (.aload_n 0, 1) := by decide +kernel
theorem dX12_leaves_1 : decode cX12_leaves 1 = .ok (.iload_n 1, 1) := by decide +kernel
theorem dX12_leaves_2 : decode cX12_leaves 2 = .ok (.invokevirtual 139, 3) := by decide +kernel
theorem dX12_leaves_5 : decode cX12_leaves 5 = .ok (.istore_n 3, 1) := by decide +kernel
theorem dX12_leaves_6 : decode cX12_leaves 6 = .ok (.iload_n 3, 1) := by decide +kernel
theorem dX12_leaves_7 : decode cX12_leaves 7 = .ok (.iconst (-1), 1) := by decide +kernel
theorem dX12_leaves_8 : decode cX12_leaves 8 = .ok (.if_icmp .eq 24, 3) := by decide +kernel
theorem dX12_leaves_11 : decode cX12_leaves 11 = .ok (.iload_n 2, 1) := by decide +kernel
theorem dX12_leaves_12 : decode cX12_leaves 12 = .ok (.iload_n 3, 1) := by decide +kernel
theorem dX12_leaves_13 : decode cX12_leaves 13 = .ok (.invokestatic 125, 3) := by decide +kernel
theorem dX12_leaves_16 : decode cX12_leaves 16 = .ok (.ifCond .eq 16, 3) := by decide +kernel
theorem dX12_leaves_19 : decode cX12_leaves 19 = .ok (.iconst 1, 1) := by decide +kernel
theorem dX12_leaves_20 : decode cX12_leaves 20 = .ok (.iload_n 2, 1) := by decide +kernel
theorem dX12_leaves_21 : decode cX12_leaves 21 = .ok (.invokestatic 308, 3) := by decide +kernel
theorem dX12_leaves_24 : decode cX12_leaves 24 = .ok (.iconst 1, 1) := by decide +kernel
theorem dX12_leaves_25 : decode cX12_leaves 25 = .ok (.isub, 1) := by decide +kernel
theorem dX12_leaves_26 : decode cX12_leaves 26 = .ok (.invokestatic 114, 3) := by decide +kernel
theorem dX12_leaves_29 : decode cX12_leaves 29 = .ok (.goto 7, 3) := by decide +kernel
theorem dX12_leaves_32 : decode cX12_leaves 32 = .ok (.iload_n 2, 1) := by decide +kernel
theorem dX12_leaves_33 : decode cX12_leaves 33 = .ok (.invokestatic 308, 3) := by decide +kernel
theorem dX12_leaves_36 : decode cX12_leaves 36 = .ok (.ireturn, 1) := by decide +kernel
theorem dX12_sentNext_0 : decode cX12_sentNext 0 = .ok (.iload_n 1, 1) := by decide +kernel
theorem dX12_sentNext_1 : decode cX12_sentNext 1 = .ok (.iconst 1, 1) := by decide +kernel
theorem dX12_sentNext_2 : decode cX12_sentNext 2 = .ok (.ldc_w 261, 3) := by decide +kernel
theorem dX12_sentNext_5 : decode cX12_sentNext 5 = .ok (.invokestatic 117, 3) := by decide +kernel
theorem dX12_sentNext_8 : decode cX12_sentNext 8 = .ok (.ifCond .eq 12, 3) := by decide +kernel
theorem dX12_sentNext_11 : decode cX12_sentNext 11 = .ok (.iload_n 2, 1) := by decide +kernel
theorem dX12_sentNext_12 : decode cX12_sentNext 12 = .ok (.iconst 0, 1) := by decide +kernel
theorem dX12_sentNext_13 : decode cX12_sentNext 13 = .ok (.iconst 1, 1) := by decide +kernel
theorem dX12_sentNext_14 : decode cX12_sentNext 14 = .ok (.invokestatic 117, 3) := by decide +kernel
theorem dX12_sentNext_17 : decode cX12_sentNext 17 = .ok (.ifCond .ne 5, 3) := by decide +kernel
theorem dX12_sentNext_20 : decode cX12_sentNext 20 = .ok (.iconst (-1), 1) := by decide +kernel
theorem dX12_sentNext_21 : decode cX12_sentNext 21 = .ok (.ireturn, 1) := by decide +kernel
theorem dX12_sentNext_22 : decode cX12_sentNext 22 = .ok (.bipush (-2), 2) := by decide +kernel
theorem dX12_sentNext_24 : decode cX12_sentNext 24 = .ok (.istore_n 3, 1) := by decide +kernel
theorem dX12_sentNext_25 : decode cX12_sentNext 25 = .ok (.iconst 0, 1) := by decide +kernel
theorem dX12_sentNext_26 : decode cX12_sentNext 26 = .ok (.istore 4, 2) := by decide +kernel
theorem dX12_sentNext_28 : decode cX12_sentNext 28 = .ok (.iload 4, 2) := by decide +kernel
theorem dX12_sentNext_30 : decode cX12_sentNext 30 = .ok (.bipush 12, 2) := by decide +kernel
theorem dX12_sentNext_32 : decode cX12_sentNext 32 = .ok (.if_icmp .ge 43, 3) := by decide +kernel
theorem dX12_sentNext_35 : decode cX12_sentNext 35 = .ok (.aload_n 0, 1) := by decide +kernel
theorem dX12_sentNext_36 : decode cX12_sentNext 36 = .ok (.iload 4, 2) := by decide +kernel
theorem dX12_sentNext_38 : decode cX12_sentNext 38 = .ok (.invokevirtual 149, 3) := by decide +kernel
theorem dX12_sentNext_41 : decode cX12_sentNext 41 = .ok (.ifCond .eq 28, 3) := by decide +kernel
theorem dX12_sentNext_44 : decode cX12_sentNext 44 = .ok (.iload_n 3, 1) := by decide +kernel
theorem dX12_sentNext_45 : decode cX12_sentNext 45 = .ok (.bipush (-2), 2) := by decide +kernel
theorem dX12_sentNext_47 : decode cX12_sentNext 47 = .ok (.if_icmp .eq 19, 3) := by decide +kernel
theorem dX12_sentNext_50 : decode cX12_sentNext 50 = .ok (.aload_n 0, 1) := by decide +kernel
theorem dX12_sentNext_51 : decode cX12_sentNext 51 = .ok (.iload 4, 2) := by decide +kernel
theorem dX12_sentNext_53 : decode cX12_sentNext 53 = .ok (.iload_n 1, 1) := by decide +kernel
theorem dX12_sentNext_54 : decode cX12_sentNext 54 = .ok (.invokevirtual 407, 3) := by decide +kernel
theorem dX12_sentNext_57 : decode cX12_sentNext 57 = .ok (.aload_n 0, 1) := by decide +kernel
theorem dX12_sentNext_58 : decode cX12_sentNext 58 = .ok (.iload_n 3, 1) := by decide +kernel
theorem dX12_sentNext_59 : decode cX12_sentNext 59 = .ok (.iload_n 1, 1) := by decide +kernel
theorem dX12_sentNext_60 : decode cX12_sentNext 60 = .ok (.invokevirtual 407, 3) := by decide +kernel
theorem dX12_sentNext_63 : decode cX12_sentNext 63 = .ok (.if_icmp .ge 6, 3) := by decide +kernel
theorem dX12_sentNext_66 : decode cX12_sentNext 66 = .ok (.iload 4, 2) := by decide +kernel
theorem dX12_sentNext_68 : decode cX12_sentNext 68 = .ok (.istore_n 3, 1) := by decide +kernel
theorem dX12_sentNext_69 : decode cX12_sentNext 69 = .ok (.iinc 4 1, 3) := by decide +kernel
theorem dX12_sentNext_72 : decode cX12_sentNext 72 = .ok (.goto (-44), 3) := by decide +kernel
theorem dX12_sentNext_75 : decode cX12_sentNext 75 = .ok (.iload_n 2, 1) := by decide +kernel
theorem dX12_sentNext_76 : decode cX12_sentNext 76 = .ok (.ifCond .eq 9, 3) := by decide +kernel
theorem dX12_sentNext_79 : decode cX12_sentNext 79 = .ok (.iload_n 3, 1) := by decide +kernel
theorem dX12_sentNext_80 : decode cX12_sentNext 80 = .ok (.bipush (-2), 2) := by decide +kernel
theorem dX12_sentNext_82 : decode cX12_sentNext 82 = .ok (.if_icmp .ne 7, 3) := by decide +kernel
theorem dX12_sentNext_85 : decode cX12_sentNext 85 = .ok (.iload_n 3, 1) := by decide +kernel
theorem dX12_sentNext_86 : decode cX12_sentNext 86 = .ok (.goto 9, 3) := by decide +kernel
theorem dX12_sentNext_89 : decode cX12_sentNext 89 = .ok (.aload_n 0, 1) := by decide +kernel
theorem dX12_sentNext_90 : decode cX12_sentNext 90 = .ok (.iload_n 3, 1) := by decide +kernel
theorem dX12_sentNext_91 : decode cX12_sentNext 91 = .ok (.iload_n 1, 1) := by decide +kernel
theorem dX12_sentNext_92 : decode cX12_sentNext 92 = .ok (.invokevirtual 407, 3) := by decide +kernel
theorem dX12_sentNext_95 : decode cX12_sentNext 95 = .ok (.ireturn, 1) := by decide +kernel
theorem dX12_changesOrder_0 : decode cX12_changesOrder 0 = .ok (.aload_n 0, 1) := by decide +kernel
theorem dX12_changesOrder_1 : decode cX12_changesOrder 1 = .ok (.getfield 96, 3) := by decide +kernel
theorem dX12_changesOrder_4 : decode cX12_changesOrder 4 = .ok (.iload_n 1, 1) := by decide +kernel
theorem dX12_changesOrder_5 : decode cX12_changesOrder 5 = .ok (.iaload, 1) := by decide +kernel
theorem dX12_changesOrder_6 : decode cX12_changesOrder 6 = .ok (.istore_n 3, 1) := by decide +kernel
theorem dX12_changesOrder_7 : decode cX12_changesOrder 7 = .ok (.aload_n 0, 1) := by decide +kernel
theorem dX12_changesOrder_8 : decode cX12_changesOrder 8 = .ok (.getfield 96, 3) := by decide +kernel
theorem dX12_changesOrder_11 : decode cX12_changesOrder 11 = .ok (.iload_n 1, 1) := by decide +kernel
theorem dX12_changesOrder_12 : decode cX12_changesOrder 12 = .ok (.aload_n 0, 1) := by decide +kernel
theorem dX12_changesOrder_13 : decode cX12_changesOrder 13 = .ok (.getfield 96, 3) := by decide +kernel
theorem dX12_changesOrder_16 : decode cX12_changesOrder 16 = .ok (.iload_n 2, 1) := by decide +kernel
theorem dX12_changesOrder_17 : decode cX12_changesOrder 17 = .ok (.iaload, 1) := by decide +kernel
theorem dX12_changesOrder_18 : decode cX12_changesOrder 18 = .ok (.iastore, 1) := by decide +kernel
theorem dX12_changesOrder_19 : decode cX12_changesOrder 19 = .ok (.aload_n 0, 1) := by decide +kernel
theorem dX12_changesOrder_20 : decode cX12_changesOrder 20 = .ok (.getfield 96, 3) := by decide +kernel
theorem dX12_changesOrder_23 : decode cX12_changesOrder 23 = .ok (.iload_n 2, 1) := by decide +kernel
theorem dX12_changesOrder_24 : decode cX12_changesOrder 24 = .ok (.iload_n 3, 1) := by decide +kernel
theorem dX12_changesOrder_25 : decode cX12_changesOrder 25 = .ok (.iastore, 1) := by decide +kernel
theorem dX12_changesOrder_26 : decode cX12_changesOrder 26 = .ok (.return_, 1) := by decide +kernel
theorem dX12_nextOrder_0 : decode cX12_nextOrder 0 = .ok (.iload_n 1, 1) := by decide +kernel
theorem dX12_nextOrder_1 : decode cX12_nextOrder 1 = .ok (.iconst 2, 1) := by decide +kernel
theorem dX12_nextOrder_2 : decode cX12_nextOrder 2 = .ok (.isub, 1) := by decide +kernel
theorem dX12_nextOrder_3 : decode cX12_nextOrder 3 = .ok (.istore_n 2, 1) := by decide +kernel
theorem dX12_nextOrder_4 : decode cX12_nextOrder 4 = .ok (.iload_n 2, 1) := by decide +kernel
theorem dX12_nextOrder_5 : decode cX12_nextOrder 5 = .ok (.ifCond .lt 27, 3) := by decide +kernel
theorem dX12_nextOrder_8 : decode cX12_nextOrder 8 = .ok (.aload_n 0, 1) := by decide +kernel
theorem dX12_nextOrder_9 : decode cX12_nextOrder 9 = .ok (.getfield 96, 3) := by decide +kernel
theorem dX12_nextOrder_12 : decode cX12_nextOrder 12 = .ok (.iload_n 2, 1) := by decide +kernel
theorem dX12_nextOrder_13 : decode cX12_nextOrder 13 = .ok (.iaload, 1) := by decide +kernel
theorem dX12_nextOrder_14 : decode cX12_nextOrder 14 = .ok (.aload_n 0, 1) := by decide +kernel
theorem dX12_nextOrder_15 : decode cX12_nextOrder 15 = .ok (.getfield 96, 3) := by decide +kernel
theorem dX12_nextOrder_18 : decode cX12_nextOrder 18 = .ok (.iload_n 2, 1) := by decide +kernel
theorem dX12_nextOrder_19 : decode cX12_nextOrder 19 = .ok (.iconst 1, 1) := by decide +kernel
theorem dX12_nextOrder_20 : decode cX12_nextOrder 20 = .ok (.iadd, 1) := by decide +kernel
theorem dX12_nextOrder_21 : decode cX12_nextOrder 21 = .ok (.iaload, 1) := by decide +kernel
theorem dX12_nextOrder_22 : decode cX12_nextOrder 22 = .ok (.if_icmp .le 10, 3) := by decide +kernel
theorem dX12_nextOrder_25 : decode cX12_nextOrder 25 = .ok (.iload_n 2, 1) := by decide +kernel
theorem dX12_nextOrder_26 : decode cX12_nextOrder 26 = .ok (.iconst 1, 1) := by decide +kernel
theorem dX12_nextOrder_27 : decode cX12_nextOrder 27 = .ok (.isub, 1) := by decide +kernel
theorem dX12_nextOrder_28 : decode cX12_nextOrder 28 = .ok (.istore_n 2, 1) := by decide +kernel
theorem dX12_nextOrder_29 : decode cX12_nextOrder 29 = .ok (.goto (-25), 3) := by decide +kernel
theorem dX12_nextOrder_32 : decode cX12_nextOrder 32 = .ok (.iload_n 2, 1) := by decide +kernel
theorem dX12_nextOrder_33 : decode cX12_nextOrder 33 = .ok (.ifCond .ge 5, 3) := by decide +kernel
theorem dX12_nextOrder_36 : decode cX12_nextOrder 36 = .ok (.iconst 0, 1) := by decide +kernel
theorem dX12_nextOrder_37 : decode cX12_nextOrder 37 = .ok (.ireturn, 1) := by decide +kernel
theorem dX12_nextOrder_38 : decode cX12_nextOrder 38 = .ok (.iload_n 1, 1) := by decide +kernel
theorem dX12_nextOrder_39 : decode cX12_nextOrder 39 = .ok (.iconst 1, 1) := by decide +kernel
theorem dX12_nextOrder_40 : decode cX12_nextOrder 40 = .ok (.isub, 1) := by decide +kernel
theorem dX12_nextOrder_41 : decode cX12_nextOrder 41 = .ok (.istore_n 3, 1) := by decide +kernel
theorem dX12_nextOrder_42 : decode cX12_nextOrder 42 = .ok (.aload_n 0, 1) := by decide +kernel
theorem dX12_nextOrder_43 : decode cX12_nextOrder 43 = .ok (.getfield 96, 3) := by decide +kernel
theorem dX12_nextOrder_46 : decode cX12_nextOrder 46 = .ok (.iload_n 3, 1) := by decide +kernel
theorem dX12_nextOrder_47 : decode cX12_nextOrder 47 = .ok (.iaload, 1) := by decide +kernel
theorem dX12_nextOrder_48 : decode cX12_nextOrder 48 = .ok (.aload_n 0, 1) := by decide +kernel
theorem dX12_nextOrder_49 : decode cX12_nextOrder 49 = .ok (.getfield 96, 3) := by decide +kernel
theorem dX12_nextOrder_52 : decode cX12_nextOrder 52 = .ok (.iload_n 2, 1) := by decide +kernel
theorem dX12_nextOrder_53 : decode cX12_nextOrder 53 = .ok (.iaload, 1) := by decide +kernel
theorem dX12_nextOrder_54 : decode cX12_nextOrder 54 = .ok (.if_icmp .ge 10, 3) := by decide +kernel
theorem dX12_nextOrder_57 : decode cX12_nextOrder 57 = .ok (.iload_n 3, 1) := by decide +kernel
theorem dX12_nextOrder_58 : decode cX12_nextOrder 58 = .ok (.iconst 1, 1) := by decide +kernel
theorem dX12_nextOrder_59 : decode cX12_nextOrder 59 = .ok (.isub, 1) := by decide +kernel
theorem dX12_nextOrder_60 : decode cX12_nextOrder 60 = .ok (.istore_n 3, 1) := by decide +kernel
theorem dX12_nextOrder_61 : decode cX12_nextOrder 61 = .ok (.goto (-19), 3) := by decide +kernel
theorem dX12_nextOrder_64 : decode cX12_nextOrder 64 = .ok (.aload_n 0, 1) := by decide +kernel
theorem dX12_nextOrder_65 : decode cX12_nextOrder 65 = .ok (.iload_n 2, 1) := by decide +kernel
theorem dX12_nextOrder_66 : decode cX12_nextOrder 66 = .ok (.iload_n 3, 1) := by decide +kernel
theorem dX12_nextOrder_67 : decode cX12_nextOrder 67 = .ok (.invokevirtual 410, 3) := by decide +kernel
theorem dX12_nextOrder_70 : decode cX12_nextOrder 70 = .ok (.iload_n 2, 1) := by decide +kernel
theorem dX12_nextOrder_71 : decode cX12_nextOrder 71 = .ok (.iconst 1, 1) := by decide +kernel
theorem dX12_nextOrder_72 : decode cX12_nextOrder 72 = .ok (.iadd, 1) := by decide +kernel
theorem dX12_nextOrder_73 : decode cX12_nextOrder 73 = .ok (.istore 4, 2) := by decide +kernel
theorem dX12_nextOrder_75 : decode cX12_nextOrder 75 = .ok (.iload_n 1, 1) := by decide +kernel
theorem dX12_nextOrder_76 : decode cX12_nextOrder 76 = .ok (.iconst 1, 1) := by decide +kernel
theorem dX12_nextOrder_77 : decode cX12_nextOrder 77 = .ok (.isub, 1) := by decide +kernel
theorem dX12_nextOrder_78 : decode cX12_nextOrder 78 = .ok (.istore 5, 2) := by decide +kernel
theorem dX12_nextOrder_80 : decode cX12_nextOrder 80 = .ok (.iload 4, 2) := by decide +kernel
theorem dX12_nextOrder_82 : decode cX12_nextOrder 82 = .ok (.iload 5, 2) := by decide +kernel
theorem dX12_nextOrder_84 : decode cX12_nextOrder 84 = .ok (.if_icmp .ge 20, 3) := by decide +kernel
theorem dX12_nextOrder_87 : decode cX12_nextOrder 87 = .ok (.aload_n 0, 1) := by decide +kernel
theorem dX12_nextOrder_88 : decode cX12_nextOrder 88 = .ok (.iload 4, 2) := by decide +kernel
theorem dX12_nextOrder_90 : decode cX12_nextOrder 90 = .ok (.iload 5, 2) := by decide +kernel
theorem dX12_nextOrder_92 : decode cX12_nextOrder 92 = .ok (.invokevirtual 410, 3) := by decide +kernel
theorem dX12_nextOrder_95 : decode cX12_nextOrder 95 = .ok (.iinc 4 1, 3) := by decide +kernel
theorem dX12_nextOrder_98 : decode cX12_nextOrder 98 = .ok (.iinc 5 (-1), 3) := by decide +kernel
theorem dX12_nextOrder_101 : decode cX12_nextOrder 101 = .ok (.goto (-21), 3) := by decide +kernel
theorem dX12_nextOrder_104 : decode cX12_nextOrder 104 = .ok (.iconst 1, 1) := by decide +kernel
theorem dX12_nextOrder_105 : decode cX12_nextOrder 105 = .ok (.ireturn, 1) := by decide +kernel
theorem dX12_canStand_0 : decode cX12_canStand 0 = .ok (.iconst 0, 1) := by decide +kernel
theorem dX12_canStand_1 : decode cX12_canStand 1 = .ok (.istore_n 2, 1) := by decide +kernel
theorem dX12_canStand_2 : decode cX12_canStand 2 = .ok (.iload_n 2, 1) := by decide +kernel
theorem dX12_canStand_3 : decode cX12_canStand 3 = .ok (.iload_n 1, 1) := by decide +kernel
theorem dX12_canStand_4 : decode cX12_canStand 4 = .ok (.if_icmp .ge 53, 3) := by decide +kernel
theorem dX12_canStand_7 : decode cX12_canStand 7 = .ok (.aload_n 0, 1) := by decide +kernel
theorem dX12_canStand_8 : decode cX12_canStand 8 = .ok (.aload_n 0, 1) := by decide +kernel
theorem dX12_canStand_9 : decode cX12_canStand 9 = .ok (.aload_n 0, 1) := by decide +kernel
theorem dX12_canStand_10 : decode cX12_canStand 10 = .ok (.getfield 96, 3) := by decide +kernel
theorem dX12_canStand_13 : decode cX12_canStand 13 = .ok (.iload_n 2, 1) := by decide +kernel
theorem dX12_canStand_14 : decode cX12_canStand 14 = .ok (.iaload, 1) := by decide +kernel
theorem dX12_canStand_15 : decode cX12_canStand 15 = .ok (.invokevirtual 401, 3) := by decide +kernel
theorem dX12_canStand_18 : decode cX12_canStand 18 = .ok (.invokevirtual 139, 3) := by decide +kernel
theorem dX12_canStand_21 : decode cX12_canStand 21 = .ok (.istore_n 3, 1) := by decide +kernel
theorem dX12_canStand_22 : decode cX12_canStand 22 = .ok (.iload_n 3, 1) := by decide +kernel
theorem dX12_canStand_23 : decode cX12_canStand 23 = .ok (.iconst (-1), 1) := by decide +kernel
theorem dX12_canStand_24 : decode cX12_canStand 24 = .ok (.if_icmp .eq 27, 3) := by decide +kernel
theorem dX12_canStand_27 : decode cX12_canStand 27 = .ok (.iload_n 3, 1) := by decide +kernel
theorem dX12_canStand_28 : decode cX12_canStand 28 = .ok (.aload_n 0, 1) := by decide +kernel
theorem dX12_canStand_29 : decode cX12_canStand 29 = .ok (.aload_n 0, 1) := by decide +kernel
theorem dX12_canStand_30 : decode cX12_canStand 30 = .ok (.aload_n 0, 1) := by decide +kernel
theorem dX12_canStand_31 : decode cX12_canStand 31 = .ok (.getfield 96, 3) := by decide +kernel
theorem dX12_canStand_34 : decode cX12_canStand 34 = .ok (.iload_n 2, 1) := by decide +kernel
theorem dX12_canStand_35 : decode cX12_canStand 35 = .ok (.iconst 1, 1) := by decide +kernel
theorem dX12_canStand_36 : decode cX12_canStand 36 = .ok (.iadd, 1) := by decide +kernel
theorem dX12_canStand_37 : decode cX12_canStand 37 = .ok (.iload_n 1, 1) := by decide +kernel
theorem dX12_canStand_38 : decode cX12_canStand 38 = .ok (.irem, 1) := by decide +kernel
theorem dX12_canStand_39 : decode cX12_canStand 39 = .ok (.iaload, 1) := by decide +kernel
theorem dX12_canStand_40 : decode cX12_canStand 40 = .ok (.invokevirtual 401, 3) := by decide +kernel
theorem dX12_canStand_43 : decode cX12_canStand 43 = .ok (.invokevirtual 139, 3) := by decide +kernel
theorem dX12_canStand_46 : decode cX12_canStand 46 = .ok (.if_icmp .ne 5, 3) := by decide +kernel
theorem dX12_canStand_49 : decode cX12_canStand 49 = .ok (.iconst 0, 1) := by decide +kernel
theorem dX12_canStand_50 : decode cX12_canStand 50 = .ok (.ireturn, 1) := by decide +kernel
theorem dX12_canStand_51 : decode cX12_canStand 51 = .ok (.iinc 2 1, 3) := by decide +kernel
theorem dX12_canStand_54 : decode cX12_canStand 54 = .ok (.goto (-52), 3) := by decide +kernel
theorem dX12_canStand_57 : decode cX12_canStand 57 = .ok (.iconst 1, 1) := by decide +kernel
theorem dX12_canStand_58 : decode cX12_canStand 58 = .ok (.ireturn, 1) := by decide +kernel
theorem dX12_guards_0 : decode cX12_guards 0 = .ok (.iload_n 1, 1) := by decide +kernel
theorem dX12_guards_1 : decode cX12_guards 1 = .ok (.iconst 3, 1) := by decide +kernel
theorem dX12_guards_2 : decode cX12_guards 2 = .ok (.bipush 6, 2) := by decide +kernel
theorem dX12_guards_4 : decode cX12_guards 4 = .ok (.invokestatic 117, 3) := by decide +kernel
theorem dX12_guards_7 : decode cX12_guards 7 = .ok (.ifCond .eq 11, 3) := by decide +kernel
theorem dX12_guards_10 : decode cX12_guards 10 = .ok (.iload_n 1, 1) := by decide +kernel
theorem dX12_guards_11 : decode cX12_guards 11 = .ok (.aload_n 0, 1) := by decide +kernel
theorem dX12_guards_12 : decode cX12_guards 12 = .ok (.getfield 152, 3) := by decide +kernel
theorem dX12_guards_15 : decode cX12_guards 15 = .ok (.if_icmp .le 5, 3) := by decide +kernel
theorem dX12_guards_18 : decode cX12_guards 18 = .ok (.iconst (-1), 1) := by decide +kernel
theorem dX12_guards_19 : decode cX12_guards 19 = .ok (.ireturn, 1) := by decide +kernel
theorem dX12_guards_20 : decode cX12_guards 20 = .ok (.aload_n 0, 1) := by decide +kernel
theorem dX12_guards_21 : decode cX12_guards 21 = .ok (.iconst 0, 1) := by decide +kernel
theorem dX12_guards_22 : decode cX12_guards 22 = .ok (.putfield 152, 3) := by decide +kernel
theorem dX12_guards_25 : decode cX12_guards 25 = .ok (.iconst 0, 1) := by decide +kernel
theorem dX12_guards_26 : decode cX12_guards 26 = .ok (.istore_n 2, 1) := by decide +kernel
theorem dX12_guards_27 : decode cX12_guards 27 = .ok (.iconst 0, 1) := by decide +kernel
theorem dX12_guards_28 : decode cX12_guards 28 = .ok (.istore_n 3, 1) := by decide +kernel
theorem dX12_guards_29 : decode cX12_guards 29 = .ok (.iload_n 3, 1) := by decide +kernel
theorem dX12_guards_30 : decode cX12_guards 30 = .ok (.iload_n 1, 1) := by decide +kernel
theorem dX12_guards_31 : decode cX12_guards 31 = .ok (.if_icmp .ge 51, 3) := by decide +kernel
theorem dX12_guards_34 : decode cX12_guards 34 = .ok (.aload_n 0, 1) := by decide +kernel
theorem dX12_guards_35 : decode cX12_guards 35 = .ok (.iload_n 3, 1) := by decide +kernel
theorem dX12_guards_36 : decode cX12_guards 36 = .ok (.invokevirtual 401, 3) := by decide +kernel
theorem dX12_guards_39 : decode cX12_guards 39 = .ok (.istore 4, 2) := by decide +kernel
theorem dX12_guards_41 : decode cX12_guards 41 = .ok (.aload_n 0, 1) := by decide +kernel
theorem dX12_guards_42 : decode cX12_guards 42 = .ok (.iload 4, 2) := by decide +kernel
theorem dX12_guards_44 : decode cX12_guards 44 = .ok (.invokevirtual 149, 3) := by decide +kernel
theorem dX12_guards_47 : decode cX12_guards 47 = .ok (.ifCond .eq 12, 3) := by decide +kernel
theorem dX12_guards_50 : decode cX12_guards 50 = .ok (.iload_n 2, 1) := by decide +kernel
theorem dX12_guards_51 : decode cX12_guards 51 = .ok (.iload 4, 2) := by decide +kernel
theorem dX12_guards_53 : decode cX12_guards 53 = .ok (.invokestatic 125, 3) := by decide +kernel
theorem dX12_guards_56 : decode cX12_guards 56 = .ok (.ifCond .eq 6, 3) := by decide +kernel
theorem dX12_guards_59 : decode cX12_guards 59 = .ok (.bipush (-3), 2) := by decide +kernel
theorem dX12_guards_61 : decode cX12_guards 61 = .ok (.ireturn, 1) := by decide +kernel
theorem dX12_guards_62 : decode cX12_guards 62 = .ok (.iload_n 2, 1) := by decide +kernel
theorem dX12_guards_63 : decode cX12_guards 63 = .ok (.iconst 1, 1) := by decide +kernel
theorem dX12_guards_64 : decode cX12_guards 64 = .ok (.iload 4, 2) := by decide +kernel
theorem dX12_guards_66 : decode cX12_guards 66 = .ok (.ishl, 1) := by decide +kernel
theorem dX12_guards_67 : decode cX12_guards 67 = .ok (.ior, 1) := by decide +kernel
theorem dX12_guards_68 : decode cX12_guards 68 = .ok (.istore_n 2, 1) := by decide +kernel
theorem dX12_guards_69 : decode cX12_guards 69 = .ok (.aload_n 0, 1) := by decide +kernel
theorem dX12_guards_70 : decode cX12_guards 70 = .ok (.getfield 96, 3) := by decide +kernel
theorem dX12_guards_73 : decode cX12_guards 73 = .ok (.iload_n 3, 1) := by decide +kernel
theorem dX12_guards_74 : decode cX12_guards 74 = .ok (.iload_n 3, 1) := by decide +kernel
theorem dX12_guards_75 : decode cX12_guards 75 = .ok (.iastore, 1) := by decide +kernel
theorem dX12_guards_76 : decode cX12_guards 76 = .ok (.iinc 3 1, 3) := by decide +kernel
theorem dX12_guards_79 : decode cX12_guards 79 = .ok (.goto (-50), 3) := by decide +kernel
theorem dX12_guards_82 : decode cX12_guards 82 = .ok (.iconst 0, 1) := by decide +kernel
theorem dX12_guards_83 : decode cX12_guards 83 = .ok (.istore_n 3, 1) := by decide +kernel
theorem dX12_guards_84 : decode cX12_guards 84 = .ok (.iconst 1, 1) := by decide +kernel
theorem dX12_guards_85 : decode cX12_guards 85 = .ok (.istore 4, 2) := by decide +kernel
theorem dX12_guards_87 : decode cX12_guards 87 = .ok (.iload 4, 2) := by decide +kernel
theorem dX12_guards_89 : decode cX12_guards 89 = .ok (.ifCond .eq 25, 3) := by decide +kernel
theorem dX12_guards_92 : decode cX12_guards 92 = .ok (.aload_n 0, 1) := by decide +kernel
theorem dX12_guards_93 : decode cX12_guards 93 = .ok (.iload_n 1, 1) := by decide +kernel
theorem dX12_guards_94 : decode cX12_guards 94 = .ok (.invokevirtual 413, 3) := by decide +kernel
theorem dX12_guards_97 : decode cX12_guards 97 = .ok (.ifCond .eq 7, 3) := by decide +kernel
theorem dX12_guards_100 : decode cX12_guards 100 = .ok (.iload_n 3, 1) := by decide +kernel
theorem dX12_guards_101 : decode cX12_guards 101 = .ok (.iconst 1, 1) := by decide +kernel
theorem dX12_guards_102 : decode cX12_guards 102 = .ok (.iadd, 1) := by decide +kernel
theorem dX12_guards_103 : decode cX12_guards 103 = .ok (.istore_n 3, 1) := by decide +kernel
theorem dX12_guards_104 : decode cX12_guards 104 = .ok (.aload_n 0, 1) := by decide +kernel
theorem dX12_guards_105 : decode cX12_guards 105 = .ok (.iload_n 1, 1) := by decide +kernel
theorem dX12_guards_106 : decode cX12_guards 106 = .ok (.invokevirtual 416, 3) := by decide +kernel
theorem dX12_guards_109 : decode cX12_guards 109 = .ok (.istore 4, 2) := by decide +kernel
theorem dX12_guards_111 : decode cX12_guards 111 = .ok (.goto (-24), 3) := by decide +kernel
theorem dX12_guards_114 : decode cX12_guards 114 = .ok (.iload_n 3, 1) := by decide +kernel
theorem dX12_guards_115 : decode cX12_guards 115 = .ok (.ireturn, 1) := by decide +kernel
theorem dX12_word_0 : decode cX12_word 0 = .ok (.iload_n 1, 1) := by decide +kernel
theorem dX12_word_1 : decode cX12_word 1 = .ok (.iconst 1, 1) := by decide +kernel
theorem dX12_word_2 : decode cX12_word 2 = .ok (.bipush 8, 2) := by decide +kernel
theorem dX12_word_4 : decode cX12_word 4 = .ok (.invokestatic 117, 3) := by decide +kernel
theorem dX12_word_7 : decode cX12_word 7 = .ok (.ifCond .eq 25, 3) := by decide +kernel
theorem dX12_word_10 : decode cX12_word 10 = .ok (.iload_n 2, 1) := by decide +kernel
theorem dX12_word_11 : decode cX12_word 11 = .ok (.iconst 0, 1) := by decide +kernel
theorem dX12_word_12 : decode cX12_word 12 = .ok (.ldc_w 261, 3) := by decide +kernel
theorem dX12_word_15 : decode cX12_word 15 = .ok (.invokestatic 117, 3) := by decide +kernel
theorem dX12_word_18 : decode cX12_word 18 = .ok (.ifCond .eq 14, 3) := by decide +kernel
theorem dX12_word_21 : decode cX12_word 21 = .ok (.iload_n 3, 1) := by decide +kernel
theorem dX12_word_22 : decode cX12_word 22 = .ok (.iconst 0, 1) := by decide +kernel
theorem dX12_word_23 : decode cX12_word 23 = .ok (.sipush 128, 3) := by decide +kernel
theorem dX12_word_26 : decode cX12_word 26 = .ok (.invokestatic 117, 3) := by decide +kernel
theorem dX12_word_29 : decode cX12_word 29 = .ok (.ifCond .ne 7, 3) := by decide +kernel
theorem dX12_word_32 : decode cX12_word 32 = .ok (.ldc2_w 419, 3) := by decide +kernel
theorem dX12_word_35 : decode cX12_word 35 = .ok (.lreturn, 1) := by decide +kernel
theorem dX12_word_36 : decode cX12_word 36 = .ok (.iconst 0, 1) := by decide +kernel
theorem dX12_word_37 : decode cX12_word 37 = .ok (.istore 4, 2) := by decide +kernel
theorem dX12_word_39 : decode cX12_word 39 = .ok (.iload 4, 2) := by decide +kernel
theorem dX12_word_41 : decode cX12_word 41 = .ok (.iload_n 3, 1) := by decide +kernel
theorem dX12_word_42 : decode cX12_word 42 = .ok (.if_icmp .gt 26, 3) := by decide +kernel
theorem dX12_word_45 : decode cX12_word 45 = .ok (.aload_n 0, 1) := by decide +kernel
theorem dX12_word_46 : decode cX12_word 46 = .ok (.getfield 99, 3) := by decide +kernel
theorem dX12_word_49 : decode cX12_word 49 = .ok (.iload 4, 2) := by decide +kernel
theorem dX12_word_51 : decode cX12_word 51 = .ok (.iload 4, 2) := by decide +kernel
theorem dX12_word_53 : decode cX12_word 53 = .ok (.ifCond .ne 7, 3) := by decide +kernel
theorem dX12_word_56 : decode cX12_word 56 = .ok (.lconst 1, 1) := by decide +kernel
theorem dX12_word_57 : decode cX12_word 57 = .ok (.goto 4, 3) := by decide +kernel
theorem dX12_word_60 : decode cX12_word 60 = .ok (.lconst 0, 1) := by decide +kernel
theorem dX12_word_61 : decode cX12_word 61 = .ok (.lastore, 1) := by decide +kernel
theorem dX12_word_62 : decode cX12_word 62 = .ok (.iinc 4 1, 3) := by decide +kernel
theorem dX12_word_65 : decode cX12_word 65 = .ok (.goto (-26), 3) := by decide +kernel
theorem dX12_word_68 : decode cX12_word 68 = .ok (.iconst 0, 1) := by decide +kernel
theorem dX12_word_69 : decode cX12_word 69 = .ok (.istore 4, 2) := by decide +kernel
theorem dX12_word_71 : decode cX12_word 71 = .ok (.iload 4, 2) := by decide +kernel
theorem dX12_word_73 : decode cX12_word 73 = .ok (.iload_n 1, 1) := by decide +kernel
theorem dX12_word_74 : decode cX12_word 74 = .ok (.if_icmp .ge 120, 3) := by decide +kernel
theorem dX12_word_77 : decode cX12_word 77 = .ok (.iconst 0, 1) := by decide +kernel
theorem dX12_word_78 : decode cX12_word 78 = .ok (.istore 5, 2) := by decide +kernel
theorem dX12_word_80 : decode cX12_word 80 = .ok (.iload 5, 2) := by decide +kernel
theorem dX12_word_82 : decode cX12_word 82 = .ok (.iload_n 3, 1) := by decide +kernel
theorem dX12_word_83 : decode cX12_word 83 = .ok (.if_icmp .gt 76, 3) := by decide +kernel
theorem dX12_word_86 : decode cX12_word 86 = .ok (.aload_n 0, 1) := by decide +kernel
theorem dX12_word_87 : decode cX12_word 87 = .ok (.getfield 103, 3) := by decide +kernel
theorem dX12_word_90 : decode cX12_word 90 = .ok (.iload 5, 2) := by decide +kernel
theorem dX12_word_92 : decode cX12_word 92 = .ok (.lconst 0, 1) := by decide +kernel
theorem dX12_word_93 : decode cX12_word 93 = .ok (.lastore, 1) := by decide +kernel
theorem dX12_word_94 : decode cX12_word 94 = .ok (.iconst 0, 1) := by decide +kernel
theorem dX12_word_95 : decode cX12_word 95 = .ok (.istore 6, 2) := by decide +kernel
theorem dX12_word_97 : decode cX12_word 97 = .ok (.iload 6, 2) := by decide +kernel
theorem dX12_word_99 : decode cX12_word 99 = .ok (.bipush 16, 2) := by decide +kernel
theorem dX12_word_101 : decode cX12_word 101 = .ok (.if_icmp .ge 52, 3) := by decide +kernel
theorem dX12_word_104 : decode cX12_word 104 = .ok (.iload 6, 2) := by decide +kernel
theorem dX12_word_106 : decode cX12_word 106 = .ok (.iload 5, 2) := by decide +kernel
theorem dX12_word_108 : decode cX12_word 108 = .ok (.if_icmp .ge 45, 3) := by decide +kernel
theorem dX12_word_111 : decode cX12_word 111 = .ok (.iload_n 2, 1) := by decide +kernel
theorem dX12_word_112 : decode cX12_word 112 = .ok (.iload 6, 2) := by decide +kernel
theorem dX12_word_114 : decode cX12_word 114 = .ok (.invokestatic 125, 3) := by decide +kernel
theorem dX12_word_117 : decode cX12_word 117 = .ok (.ifCond .eq 30, 3) := by decide +kernel
theorem dX12_word_120 : decode cX12_word 120 = .ok (.aload_n 0, 1) := by decide +kernel
theorem dX12_word_121 : decode cX12_word 121 = .ok (.getfield 103, 3) := by decide +kernel
theorem dX12_word_124 : decode cX12_word 124 = .ok (.iload 5, 2) := by decide +kernel
theorem dX12_word_126 : decode cX12_word 126 = .ok (.aload_n 0, 1) := by decide +kernel
theorem dX12_word_127 : decode cX12_word 127 = .ok (.getfield 103, 3) := by decide +kernel
theorem dX12_word_130 : decode cX12_word 130 = .ok (.iload 5, 2) := by decide +kernel
theorem dX12_word_132 : decode cX12_word 132 = .ok (.laload, 1) := by decide +kernel
theorem dX12_word_133 : decode cX12_word 133 = .ok (.aload_n 0, 1) := by decide +kernel
theorem dX12_word_134 : decode cX12_word 134 = .ok (.getfield 99, 3) := by decide +kernel
theorem dX12_word_137 : decode cX12_word 137 = .ok (.iload 5, 2) := by decide +kernel
theorem dX12_word_139 : decode cX12_word 139 = .ok (.iload 6, 2) := by decide +kernel
theorem dX12_word_141 : decode cX12_word 141 = .ok (.isub, 1) := by decide +kernel
theorem dX12_word_142 : decode cX12_word 142 = .ok (.iconst 1, 1) := by decide +kernel
theorem dX12_word_143 : decode cX12_word 143 = .ok (.isub, 1) := by decide +kernel
theorem dX12_word_144 : decode cX12_word 144 = .ok (.laload, 1) := by decide +kernel
theorem dX12_word_145 : decode cX12_word 145 = .ok (.ladd, 1) := by decide +kernel
theorem dX12_word_146 : decode cX12_word 146 = .ok (.lastore, 1) := by decide +kernel
theorem dX12_word_147 : decode cX12_word 147 = .ok (.iinc 6 1, 3) := by decide +kernel
theorem dX12_word_150 : decode cX12_word 150 = .ok (.goto (-53), 3) := by decide +kernel
theorem dX12_word_153 : decode cX12_word 153 = .ok (.iinc 5 1, 3) := by decide +kernel
theorem dX12_word_156 : decode cX12_word 156 = .ok (.goto (-76), 3) := by decide +kernel
theorem dX12_word_159 : decode cX12_word 159 = .ok (.iconst 0, 1) := by decide +kernel
theorem dX12_word_160 : decode cX12_word 160 = .ok (.istore 5, 2) := by decide +kernel
theorem dX12_word_162 : decode cX12_word 162 = .ok (.iload 5, 2) := by decide +kernel
theorem dX12_word_164 : decode cX12_word 164 = .ok (.iload_n 3, 1) := by decide +kernel
theorem dX12_word_165 : decode cX12_word 165 = .ok (.if_icmp .gt 23, 3) := by decide +kernel
theorem dX12_word_168 : decode cX12_word 168 = .ok (.aload_n 0, 1) := by decide +kernel
theorem dX12_word_169 : decode cX12_word 169 = .ok (.getfield 99, 3) := by decide +kernel
theorem dX12_word_172 : decode cX12_word 172 = .ok (.iload 5, 2) := by decide +kernel
theorem dX12_word_174 : decode cX12_word 174 = .ok (.aload_n 0, 1) := by decide +kernel
theorem dX12_word_175 : decode cX12_word 175 = .ok (.getfield 103, 3) := by decide +kernel
theorem dX12_word_178 : decode cX12_word 178 = .ok (.iload 5, 2) := by decide +kernel
theorem dX12_word_180 : decode cX12_word 180 = .ok (.laload, 1) := by decide +kernel
theorem dX12_word_181 : decode cX12_word 181 = .ok (.lastore, 1) := by decide +kernel
theorem dX12_word_182 : decode cX12_word 182 = .ok (.iinc 5 1, 3) := by decide +kernel
theorem dX12_word_185 : decode cX12_word 185 = .ok (.goto (-23), 3) := by decide +kernel
theorem dX12_word_188 : decode cX12_word 188 = .ok (.iinc 4 1, 3) := by decide +kernel
theorem dX12_word_191 : decode cX12_word 191 = .ok (.goto (-120), 3) := by decide +kernel
theorem dX12_word_194 : decode cX12_word 194 = .ok (.aload_n 0, 1) := by decide +kernel
theorem dX12_word_195 : decode cX12_word 195 = .ok (.getfield 99, 3) := by decide +kernel
theorem dX12_word_198 : decode cX12_word 198 = .ok (.iload_n 3, 1) := by decide +kernel
theorem dX12_word_199 : decode cX12_word 199 = .ok (.laload, 1) := by decide +kernel
theorem dX12_word_200 : decode cX12_word 200 = .ok (.lreturn, 1) := by decide +kernel
theorem dX12_rooms_0 : decode cX12_rooms 0 = .ok (.iload_n 1, 1) := by decide +kernel
theorem dX12_rooms_1 : decode cX12_rooms 1 = .ok (.iconst 1, 1) := by decide +kernel
theorem dX12_rooms_2 : decode cX12_rooms 2 = .ok (.bipush 12, 2) := by decide +kernel
theorem dX12_rooms_4 : decode cX12_rooms 4 = .ok (.invokestatic 117, 3) := by decide +kernel
theorem dX12_rooms_7 : decode cX12_rooms 7 = .ok (.ifCond .eq 21, 3) := by decide +kernel
theorem dX12_rooms_10 : decode cX12_rooms 10 = .ok (.iload_n 2, 1) := by decide +kernel
theorem dX12_rooms_11 : decode cX12_rooms 11 = .ok (.iconst 0, 1) := by decide +kernel
theorem dX12_rooms_12 : decode cX12_rooms 12 = .ok (.bipush 99, 2) := by decide +kernel
theorem dX12_rooms_14 : decode cX12_rooms 14 = .ok (.invokestatic 117, 3) := by decide +kernel
theorem dX12_rooms_17 : decode cX12_rooms 17 = .ok (.ifCond .eq 11, 3) := by decide +kernel
theorem dX12_rooms_20 : decode cX12_rooms 20 = .ok (.iload_n 1, 1) := by decide +kernel
theorem dX12_rooms_21 : decode cX12_rooms 21 = .ok (.aload_n 0, 1) := by decide +kernel
theorem dX12_rooms_22 : decode cX12_rooms 22 = .ok (.getfield 152, 3) := by decide +kernel
theorem dX12_rooms_25 : decode cX12_rooms 25 = .ok (.if_icmp .le 5, 3) := by decide +kernel
theorem dX12_rooms_28 : decode cX12_rooms 28 = .ok (.iconst (-1), 1) := by decide +kernel
theorem dX12_rooms_29 : decode cX12_rooms 29 = .ok (.ireturn, 1) := by decide +kernel
theorem dX12_rooms_30 : decode cX12_rooms 30 = .ok (.aload_n 0, 1) := by decide +kernel
theorem dX12_rooms_31 : decode cX12_rooms 31 = .ok (.iconst 0, 1) := by decide +kernel
theorem dX12_rooms_32 : decode cX12_rooms 32 = .ok (.putfield 152, 3) := by decide +kernel
theorem dX12_rooms_35 : decode cX12_rooms 35 = .ok (.iconst 0, 1) := by decide +kernel
theorem dX12_rooms_36 : decode cX12_rooms 36 = .ok (.istore_n 3, 1) := by decide +kernel
theorem dX12_rooms_37 : decode cX12_rooms 37 = .ok (.iload_n 3, 1) := by decide +kernel
theorem dX12_rooms_38 : decode cX12_rooms 38 = .ok (.iload_n 1, 1) := by decide +kernel
theorem dX12_rooms_39 : decode cX12_rooms 39 = .ok (.if_icmp .ge 22, 3) := by decide +kernel
theorem dX12_rooms_42 : decode cX12_rooms 42 = .ok (.aload_n 0, 1) := by decide +kernel
theorem dX12_rooms_43 : decode cX12_rooms 43 = .ok (.iload_n 3, 1) := by decide +kernel
theorem dX12_rooms_44 : decode cX12_rooms 44 = .ok (.invokevirtual 401, 3) := by decide +kernel
theorem dX12_rooms_47 : decode cX12_rooms 47 = .ok (.bipush 16, 2) := by decide +kernel
theorem dX12_rooms_49 : decode cX12_rooms 49 = .ok (.if_icmp .lt 6, 3) := by decide +kernel
theorem dX12_rooms_52 : decode cX12_rooms 52 = .ok (.bipush (-3), 2) := by decide +kernel
theorem dX12_rooms_54 : decode cX12_rooms 54 = .ok (.ireturn, 1) := by decide +kernel
theorem dX12_rooms_55 : decode cX12_rooms 55 = .ok (.iinc 3 1, 3) := by decide +kernel
theorem dX12_rooms_58 : decode cX12_rooms 58 = .ok (.goto (-21), 3) := by decide +kernel
theorem dX12_rooms_61 : decode cX12_rooms 61 = .ok (.iconst 1, 1) := by decide +kernel
theorem dX12_rooms_62 : decode cX12_rooms 62 = .ok (.istore_n 3, 1) := by decide +kernel
theorem dX12_rooms_63 : decode cX12_rooms 63 = .ok (.iload_n 3, 1) := by decide +kernel
theorem dX12_rooms_64 : decode cX12_rooms 64 = .ok (.iconst 1, 1) := by decide +kernel
theorem dX12_rooms_65 : decode cX12_rooms 65 = .ok (.iload_n 1, 1) := by decide +kernel
theorem dX12_rooms_66 : decode cX12_rooms 66 = .ok (.ishl, 1) := by decide +kernel
theorem dX12_rooms_67 : decode cX12_rooms 67 = .ok (.if_icmp .ge 56, 3) := by decide +kernel
theorem dX12_rooms_70 : decode cX12_rooms 70 = .ok (.iconst 0, 1) := by decide +kernel
theorem dX12_rooms_71 : decode cX12_rooms 71 = .ok (.istore 4, 2) := by decide +kernel
theorem dX12_rooms_73 : decode cX12_rooms 73 = .ok (.iload 4, 2) := by decide +kernel
theorem dX12_rooms_75 : decode cX12_rooms 75 = .ok (.iload_n 1, 1) := by decide +kernel
theorem dX12_rooms_76 : decode cX12_rooms 76 = .ok (.if_icmp .ge 41, 3) := by decide +kernel
theorem dX12_rooms_79 : decode cX12_rooms 79 = .ok (.aload_n 0, 1) := by decide +kernel
theorem dX12_rooms_80 : decode cX12_rooms 80 = .ok (.getfield 107, 3) := by decide +kernel
theorem dX12_rooms_83 : decode cX12_rooms 83 = .ok (.bipush 12, 2) := by decide +kernel
theorem dX12_rooms_85 : decode cX12_rooms 85 = .ok (.iload_n 3, 1) := by decide +kernel
theorem dX12_rooms_86 : decode cX12_rooms 86 = .ok (.imul, 1) := by decide +kernel
theorem dX12_rooms_87 : decode cX12_rooms 87 = .ok (.iload 4, 2) := by decide +kernel
theorem dX12_rooms_89 : decode cX12_rooms 89 = .ok (.iadd, 1) := by decide +kernel
theorem dX12_rooms_90 : decode cX12_rooms 90 = .ok (.iload_n 3, 1) := by decide +kernel
theorem dX12_rooms_91 : decode cX12_rooms 91 = .ok (.iconst 1, 1) := by decide +kernel
theorem dX12_rooms_92 : decode cX12_rooms 92 = .ok (.iload 4, 2) := by decide +kernel
theorem dX12_rooms_94 : decode cX12_rooms 94 = .ok (.ishl, 1) := by decide +kernel
theorem dX12_rooms_95 : decode cX12_rooms 95 = .ok (.if_icmp .ne 7, 3) := by decide +kernel
theorem dX12_rooms_98 : decode cX12_rooms 98 = .ok (.iload_n 2, 1) := by decide +kernel
theorem dX12_rooms_99 : decode cX12_rooms 99 = .ok (.goto 11, 3) := by decide +kernel
theorem dX12_rooms_102 : decode cX12_rooms 102 = .ok (.aload_n 0, 1) := by decide +kernel
theorem dX12_rooms_103 : decode cX12_rooms 103 = .ok (.iload_n 1, 1) := by decide +kernel
theorem dX12_rooms_104 : decode cX12_rooms 104 = .ok (.iload_n 3, 1) := by decide +kernel
theorem dX12_rooms_105 : decode cX12_rooms 105 = .ok (.iload 4, 2) := by decide +kernel
theorem dX12_rooms_107 : decode cX12_rooms 107 = .ok (.invokevirtual 421, 3) := by decide +kernel
theorem dX12_rooms_110 : decode cX12_rooms 110 = .ok (.iastore, 1) := by decide +kernel
theorem dX12_rooms_111 : decode cX12_rooms 111 = .ok (.iinc 4 1, 3) := by decide +kernel
theorem dX12_rooms_114 : decode cX12_rooms 114 = .ok (.goto (-41), 3) := by decide +kernel
theorem dX12_rooms_117 : decode cX12_rooms 117 = .ok (.iinc 3 1, 3) := by decide +kernel
theorem dX12_rooms_120 : decode cX12_rooms 120 = .ok (.goto (-57), 3) := by decide +kernel
theorem dX12_rooms_123 : decode cX12_rooms 123 = .ok (.bipush 99, 2) := by decide +kernel
theorem dX12_rooms_125 : decode cX12_rooms 125 = .ok (.istore_n 3, 1) := by decide +kernel
theorem dX12_rooms_126 : decode cX12_rooms 126 = .ok (.iconst 0, 1) := by decide +kernel
theorem dX12_rooms_127 : decode cX12_rooms 127 = .ok (.istore 4, 2) := by decide +kernel
theorem dX12_rooms_129 : decode cX12_rooms 129 = .ok (.iload 4, 2) := by decide +kernel
theorem dX12_rooms_131 : decode cX12_rooms 131 = .ok (.iload_n 1, 1) := by decide +kernel
theorem dX12_rooms_132 : decode cX12_rooms 132 = .ok (.if_icmp .ge 30, 3) := by decide +kernel
theorem dX12_rooms_135 : decode cX12_rooms 135 = .ok (.iload_n 3, 1) := by decide +kernel
theorem dX12_rooms_136 : decode cX12_rooms 136 = .ok (.aload_n 0, 1) := by decide +kernel
theorem dX12_rooms_137 : decode cX12_rooms 137 = .ok (.getfield 107, 3) := by decide +kernel
theorem dX12_rooms_140 : decode cX12_rooms 140 = .ok (.bipush 12, 2) := by decide +kernel
theorem dX12_rooms_142 : decode cX12_rooms 142 = .ok (.iconst 1, 1) := by decide +kernel
theorem dX12_rooms_143 : decode cX12_rooms 143 = .ok (.iload_n 1, 1) := by decide +kernel
theorem dX12_rooms_144 : decode cX12_rooms 144 = .ok (.ishl, 1) := by decide +kernel
theorem dX12_rooms_145 : decode cX12_rooms 145 = .ok (.iconst 1, 1) := by decide +kernel
theorem dX12_rooms_146 : decode cX12_rooms 146 = .ok (.isub, 1) := by decide +kernel
theorem dX12_rooms_147 : decode cX12_rooms 147 = .ok (.imul, 1) := by decide +kernel
theorem dX12_rooms_148 : decode cX12_rooms 148 = .ok (.iload 4, 2) := by decide +kernel
theorem dX12_rooms_150 : decode cX12_rooms 150 = .ok (.iadd, 1) := by decide +kernel
theorem dX12_rooms_151 : decode cX12_rooms 151 = .ok (.iaload, 1) := by decide +kernel
theorem dX12_rooms_152 : decode cX12_rooms 152 = .ok (.invokestatic 110, 3) := by decide +kernel
theorem dX12_rooms_155 : decode cX12_rooms 155 = .ok (.istore_n 3, 1) := by decide +kernel
theorem dX12_rooms_156 : decode cX12_rooms 156 = .ok (.iinc 4 1, 3) := by decide +kernel
theorem dX12_rooms_159 : decode cX12_rooms 159 = .ok (.goto (-30), 3) := by decide +kernel
theorem dX12_rooms_162 : decode cX12_rooms 162 = .ok (.iload_n 3, 1) := by decide +kernel
theorem dX12_rooms_163 : decode cX12_rooms 163 = .ok (.ireturn, 1) := by decide +kernel
theorem dX12_sleeps_0 : decode cX12_sleeps 0 = .ok (.ldc_w 364, 3) := by decide +kernel
theorem dX12_sleeps_3 : decode cX12_sleeps 3 = .ok (.istore 4, 2) := by decide +kernel
theorem dX12_sleeps_5 : decode cX12_sleeps 5 = .ok (.iconst 0, 1) := by decide +kernel
theorem dX12_sleeps_6 : decode cX12_sleeps 6 = .ok (.istore 5, 2) := by decide +kernel
theorem dX12_sleeps_8 : decode cX12_sleeps 8 = .ok (.iload 5, 2) := by decide +kernel
theorem dX12_sleeps_10 : decode cX12_sleeps 10 = .ok (.iload_n 1, 1) := by decide +kernel
theorem dX12_sleeps_11 : decode cX12_sleeps 11 = .ok (.if_icmp .ge 89, 3) := by decide +kernel
theorem dX12_sleeps_14 : decode cX12_sleeps 14 = .ok (.iload_n 2, 1) := by decide +kernel
theorem dX12_sleeps_15 : decode cX12_sleeps 15 = .ok (.iload_n 3, 1) := by decide +kernel
theorem dX12_sleeps_16 : decode cX12_sleeps 16 = .ok (.invokestatic 125, 3) := by decide +kernel
theorem dX12_sleeps_19 : decode cX12_sleeps 19 = .ok (.ifCond .eq 81, 3) := by decide +kernel
theorem dX12_sleeps_22 : decode cX12_sleeps 22 = .ok (.iload 5, 2) := by decide +kernel
theorem dX12_sleeps_24 : decode cX12_sleeps 24 = .ok (.iload_n 3, 1) := by decide +kernel
theorem dX12_sleeps_25 : decode cX12_sleeps 25 = .ok (.if_icmp .eq 69, 3) := by decide +kernel
theorem dX12_sleeps_28 : decode cX12_sleeps 28 = .ok (.iload_n 2, 1) := by decide +kernel
theorem dX12_sleeps_29 : decode cX12_sleeps 29 = .ok (.iload 5, 2) := by decide +kernel
theorem dX12_sleeps_31 : decode cX12_sleeps 31 = .ok (.invokestatic 125, 3) := by decide +kernel
theorem dX12_sleeps_34 : decode cX12_sleeps 34 = .ok (.ifCond .ne 6, 3) := by decide +kernel
theorem dX12_sleeps_37 : decode cX12_sleeps 37 = .ok (.goto 57, 3) := by decide +kernel
theorem dX12_sleeps_40 : decode cX12_sleeps 40 = .ok (.aload_n 0, 1) := by decide +kernel
theorem dX12_sleeps_41 : decode cX12_sleeps 41 = .ok (.getfield 107, 3) := by decide +kernel
theorem dX12_sleeps_44 : decode cX12_sleeps 44 = .ok (.bipush 12, 2) := by decide +kernel
theorem dX12_sleeps_46 : decode cX12_sleeps 46 = .ok (.iload_n 2, 1) := by decide +kernel
theorem dX12_sleeps_47 : decode cX12_sleeps 47 = .ok (.iconst 1, 1) := by decide +kernel
theorem dX12_sleeps_48 : decode cX12_sleeps 48 = .ok (.iload_n 3, 1) := by decide +kernel
theorem dX12_sleeps_49 : decode cX12_sleeps 49 = .ok (.ishl, 1) := by decide +kernel
theorem dX12_sleeps_50 : decode cX12_sleeps 50 = .ok (.iconst (-1), 1) := by decide +kernel
theorem dX12_sleeps_51 : decode cX12_sleeps 51 = .ok (.ixor, 1) := by decide +kernel
theorem dX12_sleeps_52 : decode cX12_sleeps 52 = .ok (.iand, 1) := by decide +kernel
theorem dX12_sleeps_53 : decode cX12_sleeps 53 = .ok (.imul, 1) := by decide +kernel
theorem dX12_sleeps_54 : decode cX12_sleeps 54 = .ok (.iload 5, 2) := by decide +kernel
theorem dX12_sleeps_56 : decode cX12_sleeps 56 = .ok (.iadd, 1) := by decide +kernel
theorem dX12_sleeps_57 : decode cX12_sleeps 57 = .ok (.iaload, 1) := by decide +kernel
theorem dX12_sleeps_58 : decode cX12_sleeps 58 = .ok (.istore 6, 2) := by decide +kernel
theorem dX12_sleeps_60 : decode cX12_sleeps 60 = .ok (.iload 4, 2) := by decide +kernel
theorem dX12_sleeps_62 : decode cX12_sleeps 62 = .ok (.iload 6, 2) := by decide +kernel
theorem dX12_sleeps_64 : decode cX12_sleeps 64 = .ok (.aload_n 0, 1) := by decide +kernel
theorem dX12_sleeps_65 : decode cX12_sleeps 65 = .ok (.iload 5, 2) := by decide +kernel
theorem dX12_sleeps_67 : decode cX12_sleeps 67 = .ok (.invokevirtual 401, 3) := by decide +kernel
theorem dX12_sleeps_70 : decode cX12_sleeps 70 = .ok (.aload_n 0, 1) := by decide +kernel
theorem dX12_sleeps_71 : decode cX12_sleeps 71 = .ok (.iload_n 3, 1) := by decide +kernel
theorem dX12_sleeps_72 : decode cX12_sleeps 72 = .ok (.invokevirtual 401, 3) := by decide +kernel
theorem dX12_sleeps_75 : decode cX12_sleeps 75 = .ok (.if_icmp .ne 8, 3) := by decide +kernel
theorem dX12_sleeps_78 : decode cX12_sleeps 78 = .ok (.bipush 7, 2) := by decide +kernel
theorem dX12_sleeps_80 : decode cX12_sleeps 80 = .ok (.goto 5, 3) := by decide +kernel
theorem dX12_sleeps_83 : decode cX12_sleeps 83 = .ok (.bipush (-5), 2) := by decide +kernel
theorem dX12_sleeps_85 : decode cX12_sleeps 85 = .ok (.iadd, 1) := by decide +kernel
theorem dX12_sleeps_86 : decode cX12_sleeps 86 = .ok (.invokestatic 277, 3) := by decide +kernel
theorem dX12_sleeps_89 : decode cX12_sleeps 89 = .ok (.invokestatic 110, 3) := by decide +kernel
theorem dX12_sleeps_92 : decode cX12_sleeps 92 = .ok (.istore 4, 2) := by decide +kernel
theorem dX12_sleeps_94 : decode cX12_sleeps 94 = .ok (.iinc 5 1, 3) := by decide +kernel
theorem dX12_sleeps_97 : decode cX12_sleeps 97 = .ok (.goto (-89), 3) := by decide +kernel
theorem dX12_sleeps_100 : decode cX12_sleeps 100 = .ok (.iload 4, 2) := by decide +kernel
theorem dX12_sleeps_102 : decode cX12_sleeps 102 = .ok (.ireturn, 1) := by decide +kernel
theorem dX12_seed_0 : decode cX12_seed 0 = .ok (.iload_n 1, 1) := by decide +kernel
theorem dX12_seed_1 : decode cX12_seed 1 = .ok (.iconst 0, 1) := by decide +kernel
theorem dX12_seed_2 : decode cX12_seed 2 = .ok (.ldc_w 261, 3) := by decide +kernel
theorem dX12_seed_5 : decode cX12_seed 5 = .ok (.invokestatic 117, 3) := by decide +kernel
theorem dX12_seed_8 : decode cX12_seed 8 = .ok (.ifCond .ne 5, 3) := by decide +kernel
theorem dX12_seed_11 : decode cX12_seed 11 = .ok (.iconst 0, 1) := by decide +kernel
theorem dX12_seed_12 : decode cX12_seed 12 = .ok (.ireturn, 1) := by decide +kernel
theorem dX12_seed_13 : decode cX12_seed 13 = .ok (.aload_n 0, 1) := by decide +kernel
theorem dX12_seed_14 : decode cX12_seed 14 = .ok (.getfield 7, 3) := by decide +kernel
theorem dX12_seed_17 : decode cX12_seed 17 = .ok (.sipush 209, 3) := by decide +kernel
theorem dX12_seed_20 : decode cX12_seed 20 = .ok (.iload_n 1, 1) := by decide +kernel
theorem dX12_seed_21 : decode cX12_seed 21 = .ok (.iastore, 1) := by decide +kernel
theorem dX12_seed_22 : decode cX12_seed 22 = .ok (.iconst 1, 1) := by decide +kernel
theorem dX12_seed_23 : decode cX12_seed 23 = .ok (.ireturn, 1) := by decide +kernel
theorem dX12_keep_0 : decode cX12_keep 0 = .ok (.aload_n 0, 1) := by decide +kernel
theorem dX12_keep_1 : decode cX12_keep 1 = .ok (.iconst 1, 1) := by decide +kernel
theorem dX12_keep_2 : decode cX12_keep 2 = .ok (.putfield 424, 3) := by decide +kernel
theorem dX12_keep_5 : decode cX12_keep 5 = .ok (.aload_n 0, 1) := by decide +kernel
theorem dX12_keep_6 : decode cX12_keep 6 = .ok (.getfield 7, 3) := by decide +kernel
theorem dX12_keep_9 : decode cX12_keep 9 = .ok (.aload_n 0, 1) := by decide +kernel
theorem dX12_keep_10 : decode cX12_keep 10 = .ok (.getfield 16, 3) := by decide +kernel
theorem dX12_keep_13 : decode cX12_keep 13 = .ok (.invokestatic 280, 3) := by decide +kernel
theorem dX12_keep_16 : decode cX12_keep 16 = .ok (.aload_n 0, 1) := by decide +kernel
theorem dX12_keep_17 : decode cX12_keep 17 = .ok (.getfield 7, 3) := by decide +kernel
theorem dX12_keep_20 : decode cX12_keep 20 = .ok (.sipush 208, 3) := by decide +kernel
theorem dX12_keep_23 : decode cX12_keep 23 = .ok (.iaload, 1) := by decide +kernel
theorem dX12_keep_24 : decode cX12_keep 24 = .ok (.ireturn, 1) := by decide +kernel
theorem dX12_undo_0 : decode cX12_undo 0 = .ok (.aload_n 0, 1) := by decide +kernel
theorem dX12_undo_1 : decode cX12_undo 1 = .ok (.getfield 424, 3) := by decide +kernel
theorem dX12_undo_4 : decode cX12_undo 4 = .ok (.ifCond .ne 5, 3) := by decide +kernel
theorem dX12_undo_7 : decode cX12_undo 7 = .ok (.iconst 0, 1) := by decide +kernel
theorem dX12_undo_8 : decode cX12_undo 8 = .ok (.ireturn, 1) := by decide +kernel
theorem dX12_undo_9 : decode cX12_undo 9 = .ok (.aload_n 0, 1) := by decide +kernel
theorem dX12_undo_10 : decode cX12_undo 10 = .ok (.getfield 16, 3) := by decide +kernel
theorem dX12_undo_13 : decode cX12_undo 13 = .ok (.aload_n 0, 1) := by decide +kernel
theorem dX12_undo_14 : decode cX12_undo 14 = .ok (.getfield 7, 3) := by decide +kernel
theorem dX12_undo_17 : decode cX12_undo 17 = .ok (.invokestatic 280, 3) := by decide +kernel
theorem dX12_undo_20 : decode cX12_undo 20 = .ok (.iconst 1, 1) := by decide +kernel
theorem dX12_undo_21 : decode cX12_undo 21 = .ok (.ireturn, 1) := by decide +kernel
theorem dX12_check_0 : decode cX12_check 0 = .ok (.iload_n 1, 1) := by decide +kernel
theorem dX12_check_1 : decode cX12_check 1 = .ok (.iconst 0, 1) := by decide +kernel
theorem dX12_check_2 : decode cX12_check 2 = .ok (.bipush 12, 2) := by decide +kernel
theorem dX12_check_4 : decode cX12_check 4 = .ok (.invokestatic 117, 3) := by decide +kernel
theorem dX12_check_7 : decode cX12_check 7 = .ok (.ifCond .eq 11, 3) := by decide +kernel
theorem dX12_check_10 : decode cX12_check 10 = .ok (.iload_n 1, 1) := by decide +kernel
theorem dX12_check_11 : decode cX12_check 11 = .ok (.aload_n 0, 1) := by decide +kernel
theorem dX12_check_12 : decode cX12_check 12 = .ok (.getfield 152, 3) := by decide +kernel
theorem dX12_check_15 : decode cX12_check 15 = .ok (.if_icmp .le 6, 3) := by decide +kernel
theorem dX12_check_18 : decode cX12_check 18 = .ok (.bipush (-2), 2) := by decide +kernel
theorem dX12_check_20 : decode cX12_check 20 = .ok (.ireturn, 1) := by decide +kernel
theorem dX12_check_21 : decode cX12_check 21 = .ok (.aload_n 0, 1) := by decide +kernel
theorem dX12_check_22 : decode cX12_check 22 = .ok (.iconst 0, 1) := by decide +kernel
theorem dX12_check_23 : decode cX12_check 23 = .ok (.putfield 152, 3) := by decide +kernel
theorem dX12_check_26 : decode cX12_check 26 = .ok (.iconst 0, 1) := by decide +kernel
theorem dX12_check_27 : decode cX12_check 27 = .ok (.istore_n 2, 1) := by decide +kernel
theorem dX12_check_28 : decode cX12_check 28 = .ok (.iload_n 2, 1) := by decide +kernel
theorem dX12_check_29 : decode cX12_check 29 = .ok (.iload_n 1, 1) := by decide +kernel
theorem dX12_check_30 : decode cX12_check 30 = .ok (.if_icmp .ge 38, 3) := by decide +kernel
theorem dX12_check_33 : decode cX12_check 33 = .ok (.aload_n 0, 1) := by decide +kernel
theorem dX12_check_34 : decode cX12_check 34 = .ok (.iload_n 2, 1) := by decide +kernel
theorem dX12_check_35 : decode cX12_check 35 = .ok (.invokevirtual 401, 3) := by decide +kernel
theorem dX12_check_38 : decode cX12_check 38 = .ok (.aload_n 0, 1) := by decide +kernel
theorem dX12_check_39 : decode cX12_check 39 = .ok (.iload_n 2, 1) := by decide +kernel
theorem dX12_check_40 : decode cX12_check 40 = .ok (.invokevirtual 149, 3) := by decide +kernel
theorem dX12_check_43 : decode cX12_check 43 = .ok (.ifCond .eq 11, 3) := by decide +kernel
theorem dX12_check_46 : decode cX12_check 46 = .ok (.aload_n 0, 1) := by decide +kernel
theorem dX12_check_47 : decode cX12_check 47 = .ok (.iload_n 2, 1) := by decide +kernel
theorem dX12_check_48 : decode cX12_check 48 = .ok (.invokevirtual 135, 3) := by decide +kernel
theorem dX12_check_51 : decode cX12_check 51 = .ok (.goto 6, 3) := by decide +kernel
theorem dX12_check_54 : decode cX12_check 54 = .ok (.sipush 255, 3) := by decide +kernel
theorem dX12_check_57 : decode cX12_check 57 = .ok (.if_icmp .eq 5, 3) := by decide +kernel
theorem dX12_check_60 : decode cX12_check 60 = .ok (.iload_n 2, 1) := by decide +kernel
theorem dX12_check_61 : decode cX12_check 61 = .ok (.ireturn, 1) := by decide +kernel
theorem dX12_check_62 : decode cX12_check 62 = .ok (.iinc 2 1, 3) := by decide +kernel
theorem dX12_check_65 : decode cX12_check 65 = .ok (.goto (-37), 3) := by decide +kernel
theorem dX12_check_68 : decode cX12_check 68 = .ok (.iconst (-1), 1) := by decide +kernel
theorem dX12_check_69 : decode cX12_check 69 = .ok (.ireturn, 1) := by decide +kernel
theorem dX12_twos_0 : decode cX12_twos 0 = .ok (.iconst 0, 1) := by decide +kernel
theorem dX12_twos_1 : decode cX12_twos 1 = .ok (.istore_n 1, 1) := by decide +kernel
theorem dX12_twos_2 : decode cX12_twos 2 = .ok (.iconst 0, 1) := by decide +kernel
theorem dX12_twos_3 : decode cX12_twos 3 = .ok (.istore_n 2, 1) := by decide +kernel
theorem dX12_twos_4 : decode cX12_twos 4 = .ok (.iload_n 2, 1) := by decide +kernel
theorem dX12_twos_5 : decode cX12_twos 5 = .ok (.bipush 12, 2) := by decide +kernel
theorem dX12_twos_7 : decode cX12_twos 7 = .ok (.if_icmp .ge 21, 3) := by decide +kernel
theorem dX12_twos_10 : decode cX12_twos 10 = .ok (.iload_n 1, 1) := by decide +kernel
theorem dX12_twos_11 : decode cX12_twos 11 = .ok (.aload_n 0, 1) := by decide +kernel
theorem dX12_twos_12 : decode cX12_twos 12 = .ok (.getfield 19, 3) := by decide +kernel
theorem dX12_twos_15 : decode cX12_twos 15 = .ok (.iload_n 2, 1) := by decide +kernel
theorem dX12_twos_16 : decode cX12_twos 16 = .ok (.iaload, 1) := by decide +kernel
theorem dX12_twos_17 : decode cX12_twos 17 = .ok (.invokestatic 308, 3) := by decide +kernel
theorem dX12_twos_20 : decode cX12_twos 20 = .ok (.iadd, 1) := by decide +kernel
theorem dX12_twos_21 : decode cX12_twos 21 = .ok (.istore_n 1, 1) := by decide +kernel
theorem dX12_twos_22 : decode cX12_twos 22 = .ok (.iinc 2 1, 3) := by decide +kernel
theorem dX12_twos_25 : decode cX12_twos 25 = .ok (.goto (-21), 3) := by decide +kernel
theorem dX12_twos_28 : decode cX12_twos 28 = .ok (.iload_n 1, 1) := by decide +kernel
theorem dX12_twos_29 : decode cX12_twos 29 = .ok (.iconst 2, 1) := by decide +kernel
theorem dX12_twos_30 : decode cX12_twos 30 = .ok (.idiv, 1) := by decide +kernel
theorem dX12_twos_31 : decode cX12_twos 31 = .ok (.ireturn, 1) := by decide +kernel
theorem dX12_openedOfAll_0 : decode cX12_openedOfAll 0 = .ok (.iconst 0, 1) := by decide +kernel
theorem dX12_openedOfAll_1 : decode cX12_openedOfAll 1 = .ok (.istore_n 1, 1) := by decide +kernel
theorem dX12_openedOfAll_2 : decode cX12_openedOfAll 2 = .ok (.iconst 0, 1) := by decide +kernel
theorem dX12_openedOfAll_3 : decode cX12_openedOfAll 3 = .ok (.istore_n 2, 1) := by decide +kernel
theorem dX12_openedOfAll_4 : decode cX12_openedOfAll 4 = .ok (.iload_n 2, 1) := by decide +kernel
theorem dX12_openedOfAll_5 : decode cX12_openedOfAll 5 = .ok (.bipush 16, 2) := by decide +kernel
theorem dX12_openedOfAll_7 : decode cX12_openedOfAll 7 = .ok (.if_icmp .ge 30, 3) := by decide +kernel
theorem dX12_openedOfAll_10 : decode cX12_openedOfAll 10 = .ok (.aload_n 0, 1) := by decide +kernel
theorem dX12_openedOfAll_11 : decode cX12_openedOfAll 11 = .ok (.iload_n 2, 1) := by decide +kernel
theorem dX12_openedOfAll_12 : decode cX12_openedOfAll 12 = .ok (.invokevirtual 142, 3) := by decide +kernel
theorem dX12_openedOfAll_15 : decode cX12_openedOfAll 15 = .ok (.ifCond .eq 16, 3) := by decide +kernel
theorem dX12_openedOfAll_18 : decode cX12_openedOfAll 18 = .ok (.iload_n 1, 1) := by decide +kernel
theorem dX12_openedOfAll_19 : decode cX12_openedOfAll 19 = .ok (.aload_n 0, 1) := by decide +kernel
theorem dX12_openedOfAll_20 : decode cX12_openedOfAll 20 = .ok (.getfield 7, 3) := by decide +kernel
theorem dX12_openedOfAll_23 : decode cX12_openedOfAll 23 = .ok (.sipush 192, 3) := by decide +kernel
theorem dX12_openedOfAll_26 : decode cX12_openedOfAll 26 = .ok (.iload_n 2, 1) := by decide +kernel
theorem dX12_openedOfAll_27 : decode cX12_openedOfAll 27 = .ok (.iadd, 1) := by decide +kernel
theorem dX12_openedOfAll_28 : decode cX12_openedOfAll 28 = .ok (.iaload, 1) := by decide +kernel
theorem dX12_openedOfAll_29 : decode cX12_openedOfAll 29 = .ok (.iadd, 1) := by decide +kernel
theorem dX12_openedOfAll_30 : decode cX12_openedOfAll 30 = .ok (.istore_n 1, 1) := by decide +kernel
theorem dX12_openedOfAll_31 : decode cX12_openedOfAll 31 = .ok (.iinc 2 1, 3) := by decide +kernel
theorem dX12_openedOfAll_34 : decode cX12_openedOfAll 34 = .ok (.goto (-30), 3) := by decide +kernel
theorem dX12_openedOfAll_37 : decode cX12_openedOfAll 37 = .ok (.iload_n 1, 1) := by decide +kernel
theorem dX12_openedOfAll_38 : decode cX12_openedOfAll 38 = .ok (.ireturn, 1) := by decide +kernel
theorem dX12_count_0 : decode cX12_count 0 = .ok (.iload_n 1, 1) := by decide +kernel
theorem dX12_count_1 : decode cX12_count 1 = .ok (.tableswitch 95 0 7 #[47, 56, 61, 66, 71, 76, 81, 86], 47) := by decide +kernel
theorem dX12_count_48 : decode cX12_count 48 = .ok (.aload_n 0, 1) := by decide +kernel
theorem dX12_count_49 : decode cX12_count 49 = .ok (.getfield 7, 3) := by decide +kernel
theorem dX12_count_52 : decode cX12_count 52 = .ok (.sipush 208, 3) := by decide +kernel
theorem dX12_count_55 : decode cX12_count 55 = .ok (.iaload, 1) := by decide +kernel
theorem dX12_count_56 : decode cX12_count 56 = .ok (.ireturn, 1) := by decide +kernel
theorem dX12_count_57 : decode cX12_count 57 = .ok (.aload_n 0, 1) := by decide +kernel
theorem dX12_count_58 : decode cX12_count 58 = .ok (.getfield 121, 3) := by decide +kernel
theorem dX12_count_61 : decode cX12_count 61 = .ok (.ireturn, 1) := by decide +kernel
theorem dX12_count_62 : decode cX12_count 62 = .ok (.aload_n 0, 1) := by decide +kernel
theorem dX12_count_63 : decode cX12_count 63 = .ok (.getfield 129, 3) := by decide +kernel
theorem dX12_count_66 : decode cX12_count 66 = .ok (.ireturn, 1) := by decide +kernel
theorem dX12_count_67 : decode cX12_count 67 = .ok (.aload_n 0, 1) := by decide +kernel
theorem dX12_count_68 : decode cX12_count 68 = .ok (.invokevirtual 428, 3) := by decide +kernel
theorem dX12_count_71 : decode cX12_count 71 = .ok (.ireturn, 1) := by decide +kernel
theorem dX12_count_72 : decode cX12_count 72 = .ok (.aload_n 0, 1) := by decide +kernel
theorem dX12_count_73 : decode cX12_count 73 = .ok (.invokevirtual 431, 3) := by decide +kernel
theorem dX12_count_76 : decode cX12_count 76 = .ok (.ireturn, 1) := by decide +kernel
theorem dX12_count_77 : decode cX12_count 77 = .ok (.aload_n 0, 1) := by decide +kernel
theorem dX12_count_78 : decode cX12_count 78 = .ok (.getfield 251, 3) := by decide +kernel
theorem dX12_count_81 : decode cX12_count 81 = .ok (.ireturn, 1) := by decide +kernel
theorem dX12_count_82 : decode cX12_count 82 = .ok (.aload_n 0, 1) := by decide +kernel
theorem dX12_count_83 : decode cX12_count 83 = .ok (.getfield 152, 3) := by decide +kernel
theorem dX12_count_86 : decode cX12_count 86 = .ok (.ireturn, 1) := by decide +kernel
theorem dX12_count_87 : decode cX12_count 87 = .ok (.aload_n 0, 1) := by decide +kernel
theorem dX12_count_88 : decode cX12_count 88 = .ok (.getfield 7, 3) := by decide +kernel
theorem dX12_count_91 : decode cX12_count 91 = .ok (.sipush 209, 3) := by decide +kernel
theorem dX12_count_94 : decode cX12_count 94 = .ok (.iaload, 1) := by decide +kernel
theorem dX12_count_95 : decode cX12_count 95 = .ok (.ireturn, 1) := by decide +kernel
theorem dX12_count_96 : decode cX12_count 96 = .ok (.iconst (-1), 1) := by decide +kernel
theorem dX12_count_97 : decode cX12_count 97 = .ok (.ireturn, 1) := by decide +kernel
theorem dJ11_isValidCodePoint_9a6ad_0 : decode cJ11_isValidCodePoint_9a6ad 0 = .ok (.iload_n 0, 1) := by decide +kernel
theorem dJ11_isValidCodePoint_9a6ad_1 : decode cJ11_isValidCodePoint_9a6ad 1 = .ok (.bipush 16, 2) := by decide +kernel
theorem dJ11_isValidCodePoint_9a6ad_3 : decode cJ11_isValidCodePoint_9a6ad 3 = .ok (.iushr, 1) := by decide +kernel
theorem dJ11_isValidCodePoint_9a6ad_4 : decode cJ11_isValidCodePoint_9a6ad 4 = .ok (.istore_n 1, 1) := by decide +kernel
theorem dJ11_isValidCodePoint_9a6ad_5 : decode cJ11_isValidCodePoint_9a6ad 5 = .ok (.iload_n 1, 1) := by decide +kernel
theorem dJ11_isValidCodePoint_9a6ad_6 : decode cJ11_isValidCodePoint_9a6ad 6 = .ok (.bipush 17, 2) := by decide +kernel
theorem dJ11_isValidCodePoint_9a6ad_8 : decode cJ11_isValidCodePoint_9a6ad 8 = .ok (.if_icmp .ge 7, 3) := by decide +kernel
theorem dJ11_isValidCodePoint_9a6ad_11 : decode cJ11_isValidCodePoint_9a6ad 11 = .ok (.iconst 1, 1) := by decide +kernel
theorem dJ11_isValidCodePoint_9a6ad_12 : decode cJ11_isValidCodePoint_9a6ad 12 = .ok (.goto 4, 3) := by decide +kernel
theorem dJ11_isValidCodePoint_9a6ad_15 : decode cJ11_isValidCodePoint_9a6ad 15 = .ok (.iconst 0, 1) := by decide +kernel
theorem dJ11_isValidCodePoint_9a6ad_16 : decode cJ11_isValidCodePoint_9a6ad 16 = .ok (.ireturn, 1) := by decide +kernel
theorem dJ11_highSurrogate_5068e_0 : decode cJ11_highSurrogate_5068e 0 = .ok (.iload_n 0, 1) := by decide +kernel
theorem dJ11_highSurrogate_5068e_1 : decode cJ11_highSurrogate_5068e 1 = .ok (.bipush 10, 2) := by decide +kernel
theorem dJ11_highSurrogate_5068e_3 : decode cJ11_highSurrogate_5068e 3 = .ok (.iushr, 1) := by decide +kernel
theorem dJ11_highSurrogate_5068e_4 : decode cJ11_highSurrogate_5068e 4 = .ok (.ldc 110, 2) := by decide +kernel
theorem dJ11_highSurrogate_5068e_6 : decode cJ11_highSurrogate_5068e 6 = .ok (.iadd, 1) := by decide +kernel
theorem dJ11_highSurrogate_5068e_7 : decode cJ11_highSurrogate_5068e 7 = .ok (.i2c, 1) := by decide +kernel
theorem dJ11_highSurrogate_5068e_8 : decode cJ11_highSurrogate_5068e 8 = .ok (.ireturn, 1) := by decide +kernel
theorem dJ11_lowSurrogate_5068e_0 : decode cJ11_lowSurrogate_5068e 0 = .ok (.iload_n 0, 1) := by decide +kernel
theorem dJ11_lowSurrogate_5068e_1 : decode cJ11_lowSurrogate_5068e 1 = .ok (.sipush 1023, 3) := by decide +kernel
theorem dJ11_lowSurrogate_5068e_4 : decode cJ11_lowSurrogate_5068e 4 = .ok (.iand, 1) := by decide +kernel
theorem dJ11_lowSurrogate_5068e_5 : decode cJ11_lowSurrogate_5068e 5 = .ok (.ldc 76, 2) := by decide +kernel
theorem dJ11_lowSurrogate_5068e_7 : decode cJ11_lowSurrogate_5068e 7 = .ok (.iadd, 1) := by decide +kernel
theorem dJ11_lowSurrogate_5068e_8 : decode cJ11_lowSurrogate_5068e 8 = .ok (.i2c, 1) := by decide +kernel
theorem dJ11_lowSurrogate_5068e_9 : decode cJ11_lowSurrogate_5068e 9 = .ok (.ireturn, 1) := by decide +kernel
theorem dJ6_bitCount_0f7a4_0 : decode cJ6_bitCount_0f7a4 0 = .ok (.iload_n 0, 1) := by decide +kernel
theorem dJ6_bitCount_0f7a4_1 : decode cJ6_bitCount_0f7a4 1 = .ok (.iload_n 0, 1) := by decide +kernel
theorem dJ6_bitCount_0f7a4_2 : decode cJ6_bitCount_0f7a4 2 = .ok (.iconst 1, 1) := by decide +kernel
theorem dJ6_bitCount_0f7a4_3 : decode cJ6_bitCount_0f7a4 3 = .ok (.iushr, 1) := by decide +kernel
theorem dJ6_bitCount_0f7a4_4 : decode cJ6_bitCount_0f7a4 4 = .ok (.ldc_w 265, 3) := by decide +kernel
theorem dJ6_bitCount_0f7a4_7 : decode cJ6_bitCount_0f7a4 7 = .ok (.iand, 1) := by decide +kernel
theorem dJ6_bitCount_0f7a4_8 : decode cJ6_bitCount_0f7a4 8 = .ok (.isub, 1) := by decide +kernel
theorem dJ6_bitCount_0f7a4_9 : decode cJ6_bitCount_0f7a4 9 = .ok (.istore_n 0, 1) := by decide +kernel
theorem dJ6_bitCount_0f7a4_10 : decode cJ6_bitCount_0f7a4 10 = .ok (.iload_n 0, 1) := by decide +kernel
theorem dJ6_bitCount_0f7a4_11 : decode cJ6_bitCount_0f7a4 11 = .ok (.ldc_w 266, 3) := by decide +kernel
theorem dJ6_bitCount_0f7a4_14 : decode cJ6_bitCount_0f7a4 14 = .ok (.iand, 1) := by decide +kernel
theorem dJ6_bitCount_0f7a4_15 : decode cJ6_bitCount_0f7a4 15 = .ok (.iload_n 0, 1) := by decide +kernel
theorem dJ6_bitCount_0f7a4_16 : decode cJ6_bitCount_0f7a4 16 = .ok (.iconst 2, 1) := by decide +kernel
theorem dJ6_bitCount_0f7a4_17 : decode cJ6_bitCount_0f7a4 17 = .ok (.iushr, 1) := by decide +kernel
theorem dJ6_bitCount_0f7a4_18 : decode cJ6_bitCount_0f7a4 18 = .ok (.ldc_w 266, 3) := by decide +kernel
theorem dJ6_bitCount_0f7a4_21 : decode cJ6_bitCount_0f7a4 21 = .ok (.iand, 1) := by decide +kernel
theorem dJ6_bitCount_0f7a4_22 : decode cJ6_bitCount_0f7a4 22 = .ok (.iadd, 1) := by decide +kernel
theorem dJ6_bitCount_0f7a4_23 : decode cJ6_bitCount_0f7a4 23 = .ok (.istore_n 0, 1) := by decide +kernel
theorem dJ6_bitCount_0f7a4_24 : decode cJ6_bitCount_0f7a4 24 = .ok (.iload_n 0, 1) := by decide +kernel
theorem dJ6_bitCount_0f7a4_25 : decode cJ6_bitCount_0f7a4 25 = .ok (.iload_n 0, 1) := by decide +kernel
theorem dJ6_bitCount_0f7a4_26 : decode cJ6_bitCount_0f7a4 26 = .ok (.iconst 4, 1) := by decide +kernel
theorem dJ6_bitCount_0f7a4_27 : decode cJ6_bitCount_0f7a4 27 = .ok (.iushr, 1) := by decide +kernel
theorem dJ6_bitCount_0f7a4_28 : decode cJ6_bitCount_0f7a4 28 = .ok (.iadd, 1) := by decide +kernel
theorem dJ6_bitCount_0f7a4_29 : decode cJ6_bitCount_0f7a4 29 = .ok (.ldc_w 267, 3) := by decide +kernel
theorem dJ6_bitCount_0f7a4_32 : decode cJ6_bitCount_0f7a4 32 = .ok (.iand, 1) := by decide +kernel
theorem dJ6_bitCount_0f7a4_33 : decode cJ6_bitCount_0f7a4 33 = .ok (.istore_n 0, 1) := by decide +kernel
theorem dJ6_bitCount_0f7a4_34 : decode cJ6_bitCount_0f7a4 34 = .ok (.iload_n 0, 1) := by decide +kernel
theorem dJ6_bitCount_0f7a4_35 : decode cJ6_bitCount_0f7a4 35 = .ok (.iload_n 0, 1) := by decide +kernel
theorem dJ6_bitCount_0f7a4_36 : decode cJ6_bitCount_0f7a4 36 = .ok (.bipush 8, 2) := by decide +kernel
theorem dJ6_bitCount_0f7a4_38 : decode cJ6_bitCount_0f7a4 38 = .ok (.iushr, 1) := by decide +kernel
theorem dJ6_bitCount_0f7a4_39 : decode cJ6_bitCount_0f7a4 39 = .ok (.iadd, 1) := by decide +kernel
theorem dJ6_bitCount_0f7a4_40 : decode cJ6_bitCount_0f7a4 40 = .ok (.istore_n 0, 1) := by decide +kernel
theorem dJ6_bitCount_0f7a4_41 : decode cJ6_bitCount_0f7a4 41 = .ok (.iload_n 0, 1) := by decide +kernel
theorem dJ6_bitCount_0f7a4_42 : decode cJ6_bitCount_0f7a4 42 = .ok (.iload_n 0, 1) := by decide +kernel
theorem dJ6_bitCount_0f7a4_43 : decode cJ6_bitCount_0f7a4 43 = .ok (.bipush 16, 2) := by decide +kernel
theorem dJ6_bitCount_0f7a4_45 : decode cJ6_bitCount_0f7a4 45 = .ok (.iushr, 1) := by decide +kernel
theorem dJ6_bitCount_0f7a4_46 : decode cJ6_bitCount_0f7a4 46 = .ok (.iadd, 1) := by decide +kernel
theorem dJ6_bitCount_0f7a4_47 : decode cJ6_bitCount_0f7a4 47 = .ok (.istore_n 0, 1) := by decide +kernel
theorem dJ6_bitCount_0f7a4_48 : decode cJ6_bitCount_0f7a4 48 = .ok (.iload_n 0, 1) := by decide +kernel
theorem dJ6_bitCount_0f7a4_49 : decode cJ6_bitCount_0f7a4 49 = .ok (.bipush 63, 2) := by decide +kernel
theorem dJ6_bitCount_0f7a4_51 : decode cJ6_bitCount_0f7a4 51 = .ok (.iand, 1) := by decide +kernel
theorem dJ6_bitCount_0f7a4_52 : decode cJ6_bitCount_0f7a4 52 = .ok (.ireturn, 1) := by decide +kernel
theorem dJ9_abs_0f7a4_0 : decode cJ9_abs_0f7a4 0 = .ok (.iload_n 0, 1) := by decide +kernel
theorem dJ9_abs_0f7a4_1 : decode cJ9_abs_0f7a4 1 = .ok (.ifCond .ge 8, 3) := by decide +kernel
theorem dJ9_abs_0f7a4_4 : decode cJ9_abs_0f7a4 4 = .ok (.iload_n 0, 1) := by decide +kernel
theorem dJ9_abs_0f7a4_5 : decode cJ9_abs_0f7a4 5 = .ok (.ineg, 1) := by decide +kernel
theorem dJ9_abs_0f7a4_6 : decode cJ9_abs_0f7a4 6 = .ok (.goto 4, 3) := by decide +kernel
theorem dJ9_abs_0f7a4_9 : decode cJ9_abs_0f7a4 9 = .ok (.iload_n 0, 1) := by decide +kernel
theorem dJ9_abs_0f7a4_10 : decode cJ9_abs_0f7a4 10 = .ok (.ireturn, 1) := by decide +kernel
theorem dJ9_max_7cf53_0 : decode cJ9_max_7cf53 0 = .ok (.iload_n 0, 1) := by decide +kernel
theorem dJ9_max_7cf53_1 : decode cJ9_max_7cf53 1 = .ok (.iload_n 1, 1) := by decide +kernel
theorem dJ9_max_7cf53_2 : decode cJ9_max_7cf53 2 = .ok (.if_icmp .lt 7, 3) := by decide +kernel
theorem dJ9_max_7cf53_5 : decode cJ9_max_7cf53 5 = .ok (.iload_n 0, 1) := by decide +kernel
theorem dJ9_max_7cf53_6 : decode cJ9_max_7cf53 6 = .ok (.goto 4, 3) := by decide +kernel
theorem dJ9_max_7cf53_9 : decode cJ9_max_7cf53 9 = .ok (.iload_n 1, 1) := by decide +kernel
theorem dJ9_max_7cf53_10 : decode cJ9_max_7cf53 10 = .ok (.ireturn, 1) := by decide +kernel
theorem dJ9_min_7cf53_0 : decode cJ9_min_7cf53 0 = .ok (.iload_n 0, 1) := by decide +kernel
theorem dJ9_min_7cf53_1 : decode cJ9_min_7cf53 1 = .ok (.iload_n 1, 1) := by decide +kernel
theorem dJ9_min_7cf53_2 : decode cJ9_min_7cf53 2 = .ok (.if_icmp .gt 7, 3) := by decide +kernel
theorem dJ9_min_7cf53_5 : decode cJ9_min_7cf53 5 = .ok (.iload_n 0, 1) := by decide +kernel
theorem dJ9_min_7cf53_6 : decode cJ9_min_7cf53 6 = .ok (.goto 4, 3) := by decide +kernel
theorem dJ9_min_7cf53_9 : decode cJ9_min_7cf53 9 = .ok (.iload_n 1, 1) := by decide +kernel
theorem dJ9_min_7cf53_10 : decode cJ9_min_7cf53 10 = .ok (.ireturn, 1) := by decide +kernel
theorem dJ0_length_8abf5_0 : decode cJ0_length_8abf5 0 = .ok (.aload_n 0, 1) := by decide +kernel
theorem dJ0_length_8abf5_1 : decode cJ0_length_8abf5 1 = .ok (.getfield 9, 3) := by decide +kernel
theorem dJ0_length_8abf5_4 : decode cJ0_length_8abf5 4 = .ok (.arraylength, 1) := by decide +kernel
theorem dJ0_length_8abf5_5 : decode cJ0_length_8abf5 5 = .ok (.aload_n 0, 1) := by decide +kernel
theorem dJ0_length_8abf5_6 : decode cJ0_length_8abf5 6 = .ok (.invokevirtual 335, 3) := by decide +kernel
theorem dJ0_length_8abf5_9 : decode cJ0_length_8abf5 9 = .ok (.ishr, 1) := by decide +kernel
theorem dJ0_length_8abf5_10 : decode cJ0_length_8abf5 10 = .ok (.ireturn, 1) := by decide +kernel
theorem dJ0_indexOf_0f7a4_0 : decode cJ0_indexOf_0f7a4 0 = .ok (.aload_n 0, 1) := by decide +kernel
theorem dJ0_indexOf_0f7a4_1 : decode cJ0_indexOf_0f7a4 1 = .ok (.iload_n 1, 1) := by decide +kernel
theorem dJ0_indexOf_0f7a4_2 : decode cJ0_indexOf_0f7a4 2 = .ok (.iconst 0, 1) := by decide +kernel
theorem dJ0_indexOf_0f7a4_3 : decode cJ0_indexOf_0f7a4 3 = .ok (.invokevirtual 633, 3) := by decide +kernel
theorem dJ0_indexOf_0f7a4_6 : decode cJ0_indexOf_0f7a4 6 = .ok (.ireturn, 1) := by decide +kernel
theorem dJ0_indexOf_7cf53_0 : decode cJ0_indexOf_7cf53 0 = .ok (.aload_n 0, 1) := by decide +kernel
theorem dJ0_indexOf_7cf53_1 : decode cJ0_indexOf_7cf53 1 = .ok (.invokevirtual 492, 3) := by decide +kernel
theorem dJ0_indexOf_7cf53_4 : decode cJ0_indexOf_7cf53 4 = .ok (.ifCond .eq 19, 3) := by decide +kernel
theorem dJ0_indexOf_7cf53_7 : decode cJ0_indexOf_7cf53 7 = .ok (.aload_n 0, 1) := by decide +kernel
theorem dJ0_indexOf_7cf53_8 : decode cJ0_indexOf_7cf53 8 = .ok (.getfield 9, 3) := by decide +kernel
theorem dJ0_indexOf_7cf53_11 : decode cJ0_indexOf_7cf53 11 = .ok (.iload_n 1, 1) := by decide +kernel
theorem dJ0_indexOf_7cf53_12 : decode cJ0_indexOf_7cf53 12 = .ok (.iload_n 2, 1) := by decide +kernel
theorem dJ0_indexOf_7cf53_13 : decode cJ0_indexOf_7cf53 13 = .ok (.aload_n 0, 1) := by decide +kernel
theorem dJ0_indexOf_7cf53_14 : decode cJ0_indexOf_7cf53 14 = .ok (.invokevirtual 505, 3) := by decide +kernel
theorem dJ0_indexOf_7cf53_17 : decode cJ0_indexOf_7cf53 17 = .ok (.invokestatic 637, 3) := by decide +kernel
theorem dJ0_indexOf_7cf53_20 : decode cJ0_indexOf_7cf53 20 = .ok (.goto 16, 3) := by decide +kernel
theorem dJ0_indexOf_7cf53_23 : decode cJ0_indexOf_7cf53 23 = .ok (.aload_n 0, 1) := by decide +kernel
theorem dJ0_indexOf_7cf53_24 : decode cJ0_indexOf_7cf53 24 = .ok (.getfield 9, 3) := by decide +kernel
theorem dJ0_indexOf_7cf53_27 : decode cJ0_indexOf_7cf53 27 = .ok (.iload_n 1, 1) := by decide +kernel
theorem dJ0_indexOf_7cf53_28 : decode cJ0_indexOf_7cf53 28 = .ok (.iload_n 2, 1) := by decide +kernel
theorem dJ0_indexOf_7cf53_29 : decode cJ0_indexOf_7cf53 29 = .ok (.aload_n 0, 1) := by decide +kernel
theorem dJ0_indexOf_7cf53_30 : decode cJ0_indexOf_7cf53 30 = .ok (.invokevirtual 505, 3) := by decide +kernel
theorem dJ0_indexOf_7cf53_33 : decode cJ0_indexOf_7cf53 33 = .ok (.invokestatic 640, 3) := by decide +kernel
theorem dJ0_indexOf_7cf53_36 : decode cJ0_indexOf_7cf53 36 = .ok (.ireturn, 1) := by decide +kernel
theorem dJ0_coder_7d493_0 : decode cJ0_coder_7d493 0 = .ok (.getstatic 38, 3) := by decide +kernel
theorem dJ0_coder_7d493_3 : decode cJ0_coder_7d493 3 = .ok (.ifCond .eq 10, 3) := by decide +kernel
theorem dJ0_coder_7d493_6 : decode cJ0_coder_7d493 6 = .ok (.aload_n 0, 1) := by decide +kernel
theorem dJ0_coder_7d493_7 : decode cJ0_coder_7d493 7 = .ok (.getfield 15, 3) := by decide +kernel
theorem dJ0_coder_7d493_10 : decode cJ0_coder_7d493 10 = .ok (.goto 4, 3) := by decide +kernel
theorem dJ0_coder_7d493_13 : decode cJ0_coder_7d493 13 = .ok (.iconst 1, 1) := by decide +kernel
theorem dJ0_coder_7d493_14 : decode cJ0_coder_7d493 14 = .ok (.ireturn, 1) := by decide +kernel
theorem dJ0_isLatin1_aae02_0 : decode cJ0_isLatin1_aae02 0 = .ok (.getstatic 38, 3) := by decide +kernel
theorem dJ0_isLatin1_aae02_3 : decode cJ0_isLatin1_aae02 3 = .ok (.ifCond .eq 14, 3) := by decide +kernel
theorem dJ0_isLatin1_aae02_6 : decode cJ0_isLatin1_aae02 6 = .ok (.aload_n 0, 1) := by decide +kernel
theorem dJ0_isLatin1_aae02_7 : decode cJ0_isLatin1_aae02 7 = .ok (.getfield 15, 3) := by decide +kernel
theorem dJ0_isLatin1_aae02_10 : decode cJ0_isLatin1_aae02 10 = .ok (.ifCond .ne 7, 3) := by decide +kernel
theorem dJ0_isLatin1_aae02_13 : decode cJ0_isLatin1_aae02 13 = .ok (.iconst 1, 1) := by decide +kernel
theorem dJ0_isLatin1_aae02_14 : decode cJ0_isLatin1_aae02 14 = .ok (.goto 4, 3) := by decide +kernel
theorem dJ0_isLatin1_aae02_17 : decode cJ0_isLatin1_aae02 17 = .ok (.iconst 0, 1) := by decide +kernel
theorem dJ0_isLatin1_aae02_18 : decode cJ0_isLatin1_aae02 18 = .ok (.ireturn, 1) := by decide +kernel
theorem dJ0_checkBoundsBeginEnd_23922_0 : decode cJ0_checkBoundsBeginEnd_23922 0 = .ok (.iload_n 0, 1) := by decide +kernel
theorem dJ0_checkBoundsBeginEnd_23922_1 : decode cJ0_checkBoundsBeginEnd_23922 1 = .ok (.iload_n 1, 1) := by decide +kernel
theorem dJ0_checkBoundsBeginEnd_23922_2 : decode cJ0_checkBoundsBeginEnd_23922 2 = .ok (.iload_n 2, 1) := by decide +kernel
theorem dJ0_checkBoundsBeginEnd_23922_3 : decode cJ0_checkBoundsBeginEnd_23922 3 = .ok (.getstatic 1053, 3) := by decide +kernel
theorem dJ0_checkBoundsBeginEnd_23922_6 : decode cJ0_checkBoundsBeginEnd_23922 6 = .ok (.invokestatic 1062, 3) := by decide +kernel
theorem dJ0_checkBoundsBeginEnd_23922_9 : decode cJ0_checkBoundsBeginEnd_23922 9 = .ok (.pop, 1) := by decide +kernel
theorem dJ0_checkBoundsBeginEnd_23922_10 : decode cJ0_checkBoundsBeginEnd_23922 10 = .ok (.return_, 1) := by decide +kernel
theorem dJ1_canEncode_9a6ad_0 : decode cJ1_canEncode_9a6ad 0 = .ok (.iload_n 0, 1) := by decide +kernel
theorem dJ1_canEncode_9a6ad_1 : decode cJ1_canEncode_9a6ad 1 = .ok (.ifCond .lt 14, 3) := by decide +kernel
theorem dJ1_canEncode_9a6ad_4 : decode cJ1_canEncode_9a6ad 4 = .ok (.iload_n 0, 1) := by decide +kernel
theorem dJ1_canEncode_9a6ad_5 : decode cJ1_canEncode_9a6ad 5 = .ok (.sipush 255, 3) := by decide +kernel
theorem dJ1_canEncode_9a6ad_8 : decode cJ1_canEncode_9a6ad 8 = .ok (.if_icmp .gt 7, 3) := by decide +kernel
theorem dJ1_canEncode_9a6ad_11 : decode cJ1_canEncode_9a6ad 11 = .ok (.iconst 1, 1) := by decide +kernel
theorem dJ1_canEncode_9a6ad_12 : decode cJ1_canEncode_9a6ad 12 = .ok (.goto 4, 3) := by decide +kernel
theorem dJ1_canEncode_9a6ad_15 : decode cJ1_canEncode_9a6ad 15 = .ok (.iconst 0, 1) := by decide +kernel
theorem dJ1_canEncode_9a6ad_16 : decode cJ1_canEncode_9a6ad 16 = .ok (.ireturn, 1) := by decide +kernel
theorem dJ1_indexOf_4cfef_0 : decode cJ1_indexOf_4cfef 0 = .ok (.iload_n 1, 1) := by decide +kernel
theorem dJ1_indexOf_4cfef_1 : decode cJ1_indexOf_4cfef 1 = .ok (.invokestatic 88, 3) := by decide +kernel
theorem dJ1_indexOf_4cfef_4 : decode cJ1_indexOf_4cfef 4 = .ok (.ifCond .ne 5, 3) := by decide +kernel
theorem dJ1_indexOf_4cfef_7 : decode cJ1_indexOf_4cfef 7 = .ok (.iconst (-1), 1) := by decide +kernel
theorem dJ1_indexOf_4cfef_8 : decode cJ1_indexOf_4cfef 8 = .ok (.ireturn, 1) := by decide +kernel
theorem dJ1_indexOf_4cfef_9 : decode cJ1_indexOf_4cfef 9 = .ok (.iload_n 2, 1) := by decide +kernel
theorem dJ1_indexOf_4cfef_10 : decode cJ1_indexOf_4cfef 10 = .ok (.iconst 0, 1) := by decide +kernel
theorem dJ1_indexOf_4cfef_11 : decode cJ1_indexOf_4cfef 11 = .ok (.invokestatic 92, 3) := by decide +kernel
theorem dJ1_indexOf_4cfef_14 : decode cJ1_indexOf_4cfef 14 = .ok (.istore_n 2, 1) := by decide +kernel
theorem dJ1_indexOf_4cfef_15 : decode cJ1_indexOf_4cfef 15 = .ok (.iload_n 3, 1) := by decide +kernel
theorem dJ1_indexOf_4cfef_16 : decode cJ1_indexOf_4cfef 16 = .ok (.aload_n 0, 1) := by decide +kernel
theorem dJ1_indexOf_4cfef_17 : decode cJ1_indexOf_4cfef 17 = .ok (.arraylength, 1) := by decide +kernel
theorem dJ1_indexOf_4cfef_18 : decode cJ1_indexOf_4cfef 18 = .ok (.invokestatic 38, 3) := by decide +kernel
theorem dJ1_indexOf_4cfef_21 : decode cJ1_indexOf_4cfef 21 = .ok (.istore_n 3, 1) := by decide +kernel
theorem dJ1_indexOf_4cfef_22 : decode cJ1_indexOf_4cfef 22 = .ok (.iload_n 2, 1) := by decide +kernel
theorem dJ1_indexOf_4cfef_23 : decode cJ1_indexOf_4cfef 23 = .ok (.iload_n 3, 1) := by decide +kernel
theorem dJ1_indexOf_4cfef_24 : decode cJ1_indexOf_4cfef 24 = .ok (.if_icmp .lt 5, 3) := by decide +kernel
theorem dJ1_indexOf_4cfef_27 : decode cJ1_indexOf_4cfef 27 = .ok (.iconst (-1), 1) := by decide +kernel
theorem dJ1_indexOf_4cfef_28 : decode cJ1_indexOf_4cfef 28 = .ok (.ireturn, 1) := by decide +kernel
theorem dJ1_indexOf_4cfef_29 : decode cJ1_indexOf_4cfef 29 = .ok (.aload_n 0, 1) := by decide +kernel
theorem dJ1_indexOf_4cfef_30 : decode cJ1_indexOf_4cfef 30 = .ok (.iload_n 1, 1) := by decide +kernel
theorem dJ1_indexOf_4cfef_31 : decode cJ1_indexOf_4cfef 31 = .ok (.iload_n 2, 1) := by decide +kernel
theorem dJ1_indexOf_4cfef_32 : decode cJ1_indexOf_4cfef 32 = .ok (.iload_n 3, 1) := by decide +kernel
theorem dJ1_indexOf_4cfef_33 : decode cJ1_indexOf_4cfef 33 = .ok (.invokestatic 95, 3) := by decide +kernel
theorem dJ1_indexOf_4cfef_36 : decode cJ1_indexOf_4cfef 36 = .ok (.ireturn, 1) := by decide +kernel
theorem dJ1_indexOfChar_4cfef_0 : decode cJ1_indexOfChar_4cfef 0 = .ok (.iload_n 1, 1) := by decide +kernel
theorem dJ1_indexOfChar_4cfef_1 : decode cJ1_indexOfChar_4cfef 1 = .ok (.i2b, 1) := by decide +kernel
theorem dJ1_indexOfChar_4cfef_2 : decode cJ1_indexOfChar_4cfef 2 = .ok (.istore 4, 2) := by decide +kernel
theorem dJ1_indexOfChar_4cfef_4 : decode cJ1_indexOfChar_4cfef 4 = .ok (.iload_n 2, 1) := by decide +kernel
theorem dJ1_indexOfChar_4cfef_5 : decode cJ1_indexOfChar_4cfef 5 = .ok (.istore 5, 2) := by decide +kernel
theorem dJ1_indexOfChar_4cfef_7 : decode cJ1_indexOfChar_4cfef 7 = .ok (.iload 5, 2) := by decide +kernel
theorem dJ1_indexOfChar_4cfef_9 : decode cJ1_indexOfChar_4cfef 9 = .ok (.iload_n 3, 1) := by decide +kernel
theorem dJ1_indexOfChar_4cfef_10 : decode cJ1_indexOfChar_4cfef 10 = .ok (.if_icmp .ge 21, 3) := by decide +kernel
theorem dJ1_indexOfChar_4cfef_13 : decode cJ1_indexOfChar_4cfef 13 = .ok (.aload_n 0, 1) := by decide +kernel
theorem dJ1_indexOfChar_4cfef_14 : decode cJ1_indexOfChar_4cfef 14 = .ok (.iload 5, 2) := by decide +kernel
theorem dJ1_indexOfChar_4cfef_16 : decode cJ1_indexOfChar_4cfef 16 = .ok (.baload, 1) := by decide +kernel
theorem dJ1_indexOfChar_4cfef_17 : decode cJ1_indexOfChar_4cfef 17 = .ok (.iload 4, 2) := by decide +kernel
theorem dJ1_indexOfChar_4cfef_19 : decode cJ1_indexOfChar_4cfef 19 = .ok (.if_icmp .ne 6, 3) := by decide +kernel
theorem dJ1_indexOfChar_4cfef_22 : decode cJ1_indexOfChar_4cfef 22 = .ok (.iload 5, 2) := by decide +kernel
theorem dJ1_indexOfChar_4cfef_24 : decode cJ1_indexOfChar_4cfef 24 = .ok (.ireturn, 1) := by decide +kernel
theorem dJ1_indexOfChar_4cfef_25 : decode cJ1_indexOfChar_4cfef 25 = .ok (.iinc 5 1, 3) := by decide +kernel
theorem dJ1_indexOfChar_4cfef_28 : decode cJ1_indexOfChar_4cfef 28 = .ok (.goto (-21), 3) := by decide +kernel
theorem dJ1_indexOfChar_4cfef_31 : decode cJ1_indexOfChar_4cfef 31 = .ok (.iconst (-1), 1) := by decide +kernel
theorem dJ1_indexOfChar_4cfef_32 : decode cJ1_indexOfChar_4cfef 32 = .ok (.ireturn, 1) := by decide +kernel
theorem dJ2_getChar_3b067_0 : decode cJ2_getChar_3b067 0 = .ok (.getstatic 44, 3) := by decide +kernel
theorem dJ2_getChar_3b067_3 : decode cJ2_getChar_3b067 3 = .ok (.ifCond .ne 25, 3) := by decide +kernel
theorem dJ2_getChar_3b067_6 : decode cJ2_getChar_3b067 6 = .ok (.iload_n 1, 1) := by decide +kernel
theorem dJ2_getChar_3b067_7 : decode cJ2_getChar_3b067 7 = .ok (.ifCond .lt 11, 3) := by decide +kernel
theorem dJ2_getChar_3b067_10 : decode cJ2_getChar_3b067 10 = .ok (.iload_n 1, 1) := by decide +kernel
theorem dJ2_getChar_3b067_11 : decode cJ2_getChar_3b067 11 = .ok (.aload_n 0, 1) := by decide +kernel
theorem dJ2_getChar_3b067_12 : decode cJ2_getChar_3b067 12 = .ok (.invokestatic 48, 3) := by decide +kernel
theorem dJ2_getChar_3b067_15 : decode cJ2_getChar_3b067 15 = .ok (.if_icmp .lt 13, 3) := by decide +kernel
theorem dJ2_getChar_3b067_18 : decode cJ2_getChar_3b067 18 = .ok (.new 52, 3) := by decide +kernel
theorem dJ2_getChar_3b067_21 : decode cJ2_getChar_3b067 21 = .ok (.dup, 1) := by decide +kernel
theorem dJ2_getChar_3b067_22 : decode cJ2_getChar_3b067 22 = .ok (.ldc 54, 2) := by decide +kernel
theorem dJ2_getChar_3b067_24 : decode cJ2_getChar_3b067 24 = .ok (.invokespecial 56, 3) := by decide +kernel
theorem dJ2_getChar_3b067_27 : decode cJ2_getChar_3b067 27 = .ok (.athrow, 1) := by decide +kernel
theorem dJ2_getChar_3b067_28 : decode cJ2_getChar_3b067 28 = .ok (.iload_n 1, 1) := by decide +kernel
theorem dJ2_getChar_3b067_29 : decode cJ2_getChar_3b067 29 = .ok (.iconst 1, 1) := by decide +kernel
theorem dJ2_getChar_3b067_30 : decode cJ2_getChar_3b067 30 = .ok (.ishl, 1) := by decide +kernel
theorem dJ2_getChar_3b067_31 : decode cJ2_getChar_3b067 31 = .ok (.istore_n 1, 1) := by decide +kernel
theorem dJ2_getChar_3b067_32 : decode cJ2_getChar_3b067 32 = .ok (.aload_n 0, 1) := by decide +kernel
theorem dJ2_getChar_3b067_33 : decode cJ2_getChar_3b067 33 = .ok (.iload_n 1, 1) := by decide +kernel
theorem dJ2_getChar_3b067_34 : decode cJ2_getChar_3b067 34 = .ok (.iinc 1 1, 3) := by decide +kernel
theorem dJ2_getChar_3b067_37 : decode cJ2_getChar_3b067 37 = .ok (.baload, 1) := by decide +kernel
theorem dJ2_getChar_3b067_38 : decode cJ2_getChar_3b067 38 = .ok (.sipush 255, 3) := by decide +kernel
theorem dJ2_getChar_3b067_41 : decode cJ2_getChar_3b067 41 = .ok (.iand, 1) := by decide +kernel
theorem dJ2_getChar_3b067_42 : decode cJ2_getChar_3b067 42 = .ok (.getstatic 59, 3) := by decide +kernel
theorem dJ2_getChar_3b067_45 : decode cJ2_getChar_3b067 45 = .ok (.ishl, 1) := by decide +kernel
theorem dJ2_getChar_3b067_46 : decode cJ2_getChar_3b067 46 = .ok (.aload_n 0, 1) := by decide +kernel
theorem dJ2_getChar_3b067_47 : decode cJ2_getChar_3b067 47 = .ok (.iload_n 1, 1) := by decide +kernel
theorem dJ2_getChar_3b067_48 : decode cJ2_getChar_3b067 48 = .ok (.baload, 1) := by decide +kernel
theorem dJ2_getChar_3b067_49 : decode cJ2_getChar_3b067 49 = .ok (.sipush 255, 3) := by decide +kernel
theorem dJ2_getChar_3b067_52 : decode cJ2_getChar_3b067 52 = .ok (.iand, 1) := by decide +kernel
theorem dJ2_getChar_3b067_53 : decode cJ2_getChar_3b067 53 = .ok (.getstatic 63, 3) := by decide +kernel
theorem dJ2_getChar_3b067_56 : decode cJ2_getChar_3b067 56 = .ok (.ishl, 1) := by decide +kernel
theorem dJ2_getChar_3b067_57 : decode cJ2_getChar_3b067 57 = .ok (.ior, 1) := by decide +kernel
theorem dJ2_getChar_3b067_58 : decode cJ2_getChar_3b067 58 = .ok (.i2c, 1) := by decide +kernel
theorem dJ2_getChar_3b067_59 : decode cJ2_getChar_3b067 59 = .ok (.ireturn, 1) := by decide +kernel
theorem dJ2_length_9d52b_0 : decode cJ2_length_9d52b 0 = .ok (.aload_n 0, 1) := by decide +kernel
theorem dJ2_length_9d52b_1 : decode cJ2_length_9d52b 1 = .ok (.arraylength, 1) := by decide +kernel
theorem dJ2_length_9d52b_2 : decode cJ2_length_9d52b 2 = .ok (.iconst 1, 1) := by decide +kernel
theorem dJ2_length_9d52b_3 : decode cJ2_length_9d52b 3 = .ok (.ishr, 1) := by decide +kernel
theorem dJ2_length_9d52b_4 : decode cJ2_length_9d52b 4 = .ok (.ireturn, 1) := by decide +kernel
theorem dJ2_indexOf_4cfef_0 : decode cJ2_indexOf_4cfef 0 = .ok (.iload_n 2, 1) := by decide +kernel
theorem dJ2_indexOf_4cfef_1 : decode cJ2_indexOf_4cfef 1 = .ok (.iconst 0, 1) := by decide +kernel
theorem dJ2_indexOf_4cfef_2 : decode cJ2_indexOf_4cfef 2 = .ok (.invokestatic 224, 3) := by decide +kernel
theorem dJ2_indexOf_4cfef_5 : decode cJ2_indexOf_4cfef 5 = .ok (.istore_n 2, 1) := by decide +kernel
theorem dJ2_indexOf_4cfef_6 : decode cJ2_indexOf_4cfef 6 = .ok (.iload_n 3, 1) := by decide +kernel
theorem dJ2_indexOf_4cfef_7 : decode cJ2_indexOf_4cfef 7 = .ok (.aload_n 0, 1) := by decide +kernel
theorem dJ2_indexOf_4cfef_8 : decode cJ2_indexOf_4cfef 8 = .ok (.arraylength, 1) := by decide +kernel
theorem dJ2_indexOf_4cfef_9 : decode cJ2_indexOf_4cfef 9 = .ok (.iconst 1, 1) := by decide +kernel
theorem dJ2_indexOf_4cfef_10 : decode cJ2_indexOf_4cfef 10 = .ok (.ishr, 1) := by decide +kernel
theorem dJ2_indexOf_4cfef_11 : decode cJ2_indexOf_4cfef 11 = .ok (.invokestatic 183, 3) := by decide +kernel
theorem dJ2_indexOf_4cfef_14 : decode cJ2_indexOf_4cfef 14 = .ok (.istore_n 3, 1) := by decide +kernel
theorem dJ2_indexOf_4cfef_15 : decode cJ2_indexOf_4cfef 15 = .ok (.iload_n 2, 1) := by decide +kernel
theorem dJ2_indexOf_4cfef_16 : decode cJ2_indexOf_4cfef 16 = .ok (.iload_n 3, 1) := by decide +kernel
theorem dJ2_indexOf_4cfef_17 : decode cJ2_indexOf_4cfef 17 = .ok (.if_icmp .lt 5, 3) := by decide +kernel
theorem dJ2_indexOf_4cfef_20 : decode cJ2_indexOf_4cfef 20 = .ok (.iconst (-1), 1) := by decide +kernel
theorem dJ2_indexOf_4cfef_21 : decode cJ2_indexOf_4cfef 21 = .ok (.ireturn, 1) := by decide +kernel
theorem dJ2_indexOf_4cfef_22 : decode cJ2_indexOf_4cfef 22 = .ok (.iload_n 1, 1) := by decide +kernel
theorem dJ2_indexOf_4cfef_23 : decode cJ2_indexOf_4cfef 23 = .ok (.ldc 227, 2) := by decide +kernel
theorem dJ2_indexOf_4cfef_25 : decode cJ2_indexOf_4cfef 25 = .ok (.if_icmp .ge 11, 3) := by decide +kernel
theorem dJ2_indexOf_4cfef_28 : decode cJ2_indexOf_4cfef 28 = .ok (.aload_n 0, 1) := by decide +kernel
theorem dJ2_indexOf_4cfef_29 : decode cJ2_indexOf_4cfef 29 = .ok (.iload_n 1, 1) := by decide +kernel
theorem dJ2_indexOf_4cfef_30 : decode cJ2_indexOf_4cfef 30 = .ok (.iload_n 2, 1) := by decide +kernel
theorem dJ2_indexOf_4cfef_31 : decode cJ2_indexOf_4cfef 31 = .ok (.iload_n 3, 1) := by decide +kernel
theorem dJ2_indexOf_4cfef_32 : decode cJ2_indexOf_4cfef 32 = .ok (.invokestatic 228, 3) := by decide +kernel
theorem dJ2_indexOf_4cfef_35 : decode cJ2_indexOf_4cfef 35 = .ok (.ireturn, 1) := by decide +kernel
theorem dJ2_indexOf_4cfef_36 : decode cJ2_indexOf_4cfef 36 = .ok (.aload_n 0, 1) := by decide +kernel
theorem dJ2_indexOf_4cfef_37 : decode cJ2_indexOf_4cfef 37 = .ok (.iload_n 1, 1) := by decide +kernel
theorem dJ2_indexOf_4cfef_38 : decode cJ2_indexOf_4cfef 38 = .ok (.iload_n 2, 1) := by decide +kernel
theorem dJ2_indexOf_4cfef_39 : decode cJ2_indexOf_4cfef 39 = .ok (.iload_n 3, 1) := by decide +kernel
theorem dJ2_indexOf_4cfef_40 : decode cJ2_indexOf_4cfef 40 = .ok (.invokestatic 232, 3) := by decide +kernel
theorem dJ2_indexOf_4cfef_43 : decode cJ2_indexOf_4cfef 43 = .ok (.ireturn, 1) := by decide +kernel
theorem dJ2_indexOfChar_4cfef_0 : decode cJ2_indexOfChar_4cfef 0 = .ok (.iload_n 2, 1) := by decide +kernel
theorem dJ2_indexOfChar_4cfef_1 : decode cJ2_indexOfChar_4cfef 1 = .ok (.iload_n 3, 1) := by decide +kernel
theorem dJ2_indexOfChar_4cfef_2 : decode cJ2_indexOfChar_4cfef 2 = .ok (.aload_n 0, 1) := by decide +kernel
theorem dJ2_indexOfChar_4cfef_3 : decode cJ2_indexOfChar_4cfef 3 = .ok (.invokestatic 96, 3) := by decide +kernel
theorem dJ2_indexOfChar_4cfef_6 : decode cJ2_indexOfChar_4cfef 6 = .ok (.aload_n 0, 1) := by decide +kernel
theorem dJ2_indexOfChar_4cfef_7 : decode cJ2_indexOfChar_4cfef 7 = .ok (.iload_n 1, 1) := by decide +kernel
theorem dJ2_indexOfChar_4cfef_8 : decode cJ2_indexOfChar_4cfef 8 = .ok (.iload_n 2, 1) := by decide +kernel
theorem dJ2_indexOfChar_4cfef_9 : decode cJ2_indexOfChar_4cfef 9 = .ok (.iload_n 3, 1) := by decide +kernel
theorem dJ2_indexOfChar_4cfef_10 : decode cJ2_indexOfChar_4cfef 10 = .ok (.invokestatic 244, 3) := by decide +kernel
theorem dJ2_indexOfChar_4cfef_13 : decode cJ2_indexOfChar_4cfef 13 = .ok (.ireturn, 1) := by decide +kernel
theorem dJ2_indexOfCharUnsafe_4cfef_0 : decode cJ2_indexOfCharUnsafe_4cfef 0 = .ok (.iload_n 2, 1) := by decide +kernel
theorem dJ2_indexOfCharUnsafe_4cfef_1 : decode cJ2_indexOfCharUnsafe_4cfef 1 = .ok (.istore 4, 2) := by decide +kernel
theorem dJ2_indexOfCharUnsafe_4cfef_3 : decode cJ2_indexOfCharUnsafe_4cfef 3 = .ok (.iload 4, 2) := by decide +kernel
theorem dJ2_indexOfCharUnsafe_4cfef_5 : decode cJ2_indexOfCharUnsafe_4cfef 5 = .ok (.iload_n 3, 1) := by decide +kernel
theorem dJ2_indexOfCharUnsafe_4cfef_6 : decode cJ2_indexOfCharUnsafe_4cfef 6 = .ok (.if_icmp .ge 22, 3) := by decide +kernel
theorem dJ2_indexOfCharUnsafe_4cfef_9 : decode cJ2_indexOfCharUnsafe_4cfef 9 = .ok (.aload_n 0, 1) := by decide +kernel
theorem dJ2_indexOfCharUnsafe_4cfef_10 : decode cJ2_indexOfCharUnsafe_4cfef 10 = .ok (.iload 4, 2) := by decide +kernel
theorem dJ2_indexOfCharUnsafe_4cfef_12 : decode cJ2_indexOfCharUnsafe_4cfef 12 = .ok (.invokestatic 71, 3) := by decide +kernel
theorem dJ2_indexOfCharUnsafe_4cfef_15 : decode cJ2_indexOfCharUnsafe_4cfef 15 = .ok (.iload_n 1, 1) := by decide +kernel
theorem dJ2_indexOfCharUnsafe_4cfef_16 : decode cJ2_indexOfCharUnsafe_4cfef 16 = .ok (.if_icmp .ne 6, 3) := by decide +kernel
theorem dJ2_indexOfCharUnsafe_4cfef_19 : decode cJ2_indexOfCharUnsafe_4cfef 19 = .ok (.iload 4, 2) := by decide +kernel
theorem dJ2_indexOfCharUnsafe_4cfef_21 : decode cJ2_indexOfCharUnsafe_4cfef 21 = .ok (.ireturn, 1) := by decide +kernel
theorem dJ2_indexOfCharUnsafe_4cfef_22 : decode cJ2_indexOfCharUnsafe_4cfef 22 = .ok (.iinc 4 1, 3) := by decide +kernel
theorem dJ2_indexOfCharUnsafe_4cfef_25 : decode cJ2_indexOfCharUnsafe_4cfef 25 = .ok (.goto (-22), 3) := by decide +kernel
theorem dJ2_indexOfCharUnsafe_4cfef_28 : decode cJ2_indexOfCharUnsafe_4cfef 28 = .ok (.iconst (-1), 1) := by decide +kernel
theorem dJ2_indexOfCharUnsafe_4cfef_29 : decode cJ2_indexOfCharUnsafe_4cfef 29 = .ok (.ireturn, 1) := by decide +kernel
theorem dJ2_indexOfSupplementary_4cfef_0 : decode cJ2_indexOfSupplementary_4cfef 0 = .ok (.iload_n 1, 1) := by decide +kernel
theorem dJ2_indexOfSupplementary_4cfef_1 : decode cJ2_indexOfSupplementary_4cfef 1 = .ok (.invokestatic 164, 3) := by decide +kernel
theorem dJ2_indexOfSupplementary_4cfef_4 : decode cJ2_indexOfSupplementary_4cfef 4 = .ok (.ifCond .eq 65, 3) := by decide +kernel
theorem dJ2_indexOfSupplementary_4cfef_7 : decode cJ2_indexOfSupplementary_4cfef 7 = .ok (.iload_n 1, 1) := by decide +kernel
theorem dJ2_indexOfSupplementary_4cfef_8 : decode cJ2_indexOfSupplementary_4cfef 8 = .ok (.invokestatic 157, 3) := by decide +kernel
theorem dJ2_indexOfSupplementary_4cfef_11 : decode cJ2_indexOfSupplementary_4cfef 11 = .ok (.istore 4, 2) := by decide +kernel
theorem dJ2_indexOfSupplementary_4cfef_13 : decode cJ2_indexOfSupplementary_4cfef 13 = .ok (.iload_n 1, 1) := by decide +kernel
theorem dJ2_indexOfSupplementary_4cfef_14 : decode cJ2_indexOfSupplementary_4cfef 14 = .ok (.invokestatic 161, 3) := by decide +kernel
theorem dJ2_indexOfSupplementary_4cfef_17 : decode cJ2_indexOfSupplementary_4cfef 17 = .ok (.istore 5, 2) := by decide +kernel
theorem dJ2_indexOfSupplementary_4cfef_19 : decode cJ2_indexOfSupplementary_4cfef 19 = .ok (.iload_n 2, 1) := by decide +kernel
theorem dJ2_indexOfSupplementary_4cfef_20 : decode cJ2_indexOfSupplementary_4cfef 20 = .ok (.iload_n 3, 1) := by decide +kernel
theorem dJ2_indexOfSupplementary_4cfef_21 : decode cJ2_indexOfSupplementary_4cfef 21 = .ok (.aload_n 0, 1) := by decide +kernel
theorem dJ2_indexOfSupplementary_4cfef_22 : decode cJ2_indexOfSupplementary_4cfef 22 = .ok (.invokestatic 96, 3) := by decide +kernel
theorem dJ2_indexOfSupplementary_4cfef_25 : decode cJ2_indexOfSupplementary_4cfef 25 = .ok (.iload_n 2, 1) := by decide +kernel
theorem dJ2_indexOfSupplementary_4cfef_26 : decode cJ2_indexOfSupplementary_4cfef 26 = .ok (.istore 6, 2) := by decide +kernel
theorem dJ2_indexOfSupplementary_4cfef_28 : decode cJ2_indexOfSupplementary_4cfef 28 = .ok (.iload 6, 2) := by decide +kernel
theorem dJ2_indexOfSupplementary_4cfef_30 : decode cJ2_indexOfSupplementary_4cfef 30 = .ok (.iload_n 3, 1) := by decide +kernel
theorem dJ2_indexOfSupplementary_4cfef_31 : decode cJ2_indexOfSupplementary_4cfef 31 = .ok (.iconst 1, 1) := by decide +kernel
theorem dJ2_indexOfSupplementary_4cfef_32 : decode cJ2_indexOfSupplementary_4cfef 32 = .ok (.isub, 1) := by decide +kernel
theorem dJ2_indexOfSupplementary_4cfef_33 : decode cJ2_indexOfSupplementary_4cfef 33 = .ok (.if_icmp .ge 36, 3) := by decide +kernel
theorem dJ2_indexOfSupplementary_4cfef_36 : decode cJ2_indexOfSupplementary_4cfef 36 = .ok (.aload_n 0, 1) := by decide +kernel
theorem dJ2_indexOfSupplementary_4cfef_37 : decode cJ2_indexOfSupplementary_4cfef 37 = .ok (.iload 6, 2) := by decide +kernel
theorem dJ2_indexOfSupplementary_4cfef_39 : decode cJ2_indexOfSupplementary_4cfef 39 = .ok (.invokestatic 71, 3) := by decide +kernel
theorem dJ2_indexOfSupplementary_4cfef_42 : decode cJ2_indexOfSupplementary_4cfef 42 = .ok (.iload 4, 2) := by decide +kernel
theorem dJ2_indexOfSupplementary_4cfef_44 : decode cJ2_indexOfSupplementary_4cfef 44 = .ok (.if_icmp .ne 19, 3) := by decide +kernel
theorem dJ2_indexOfSupplementary_4cfef_47 : decode cJ2_indexOfSupplementary_4cfef 47 = .ok (.aload_n 0, 1) := by decide +kernel
theorem dJ2_indexOfSupplementary_4cfef_48 : decode cJ2_indexOfSupplementary_4cfef 48 = .ok (.iload 6, 2) := by decide +kernel
theorem dJ2_indexOfSupplementary_4cfef_50 : decode cJ2_indexOfSupplementary_4cfef 50 = .ok (.iconst 1, 1) := by decide +kernel
theorem dJ2_indexOfSupplementary_4cfef_51 : decode cJ2_indexOfSupplementary_4cfef 51 = .ok (.iadd, 1) := by decide +kernel
theorem dJ2_indexOfSupplementary_4cfef_52 : decode cJ2_indexOfSupplementary_4cfef 52 = .ok (.invokestatic 71, 3) := by decide +kernel
theorem dJ2_indexOfSupplementary_4cfef_55 : decode cJ2_indexOfSupplementary_4cfef 55 = .ok (.iload 5, 2) := by decide +kernel
theorem dJ2_indexOfSupplementary_4cfef_57 : decode cJ2_indexOfSupplementary_4cfef 57 = .ok (.if_icmp .ne 6, 3) := by decide +kernel
theorem dJ2_indexOfSupplementary_4cfef_60 : decode cJ2_indexOfSupplementary_4cfef 60 = .ok (.iload 6, 2) := by decide +kernel
theorem dJ2_indexOfSupplementary_4cfef_62 : decode cJ2_indexOfSupplementary_4cfef 62 = .ok (.ireturn, 1) := by decide +kernel
theorem dJ2_indexOfSupplementary_4cfef_63 : decode cJ2_indexOfSupplementary_4cfef 63 = .ok (.iinc 6 1, 3) := by decide +kernel
theorem dJ2_indexOfSupplementary_4cfef_66 : decode cJ2_indexOfSupplementary_4cfef 66 = .ok (.goto (-38), 3) := by decide +kernel
theorem dJ2_indexOfSupplementary_4cfef_69 : decode cJ2_indexOfSupplementary_4cfef 69 = .ok (.iconst (-1), 1) := by decide +kernel
theorem dJ2_indexOfSupplementary_4cfef_70 : decode cJ2_indexOfSupplementary_4cfef 70 = .ok (.ireturn, 1) := by decide +kernel
theorem dJ2_checkBoundsBeginEnd_d044e_0 : decode cJ2_checkBoundsBeginEnd_d044e 0 = .ok (.iload_n 0, 1) := by decide +kernel
theorem dJ2_checkBoundsBeginEnd_d044e_1 : decode cJ2_checkBoundsBeginEnd_d044e 1 = .ok (.iload_n 1, 1) := by decide +kernel
theorem dJ2_checkBoundsBeginEnd_d044e_2 : decode cJ2_checkBoundsBeginEnd_d044e 2 = .ok (.aload_n 2, 1) := by decide +kernel
theorem dJ2_checkBoundsBeginEnd_d044e_3 : decode cJ2_checkBoundsBeginEnd_d044e 3 = .ok (.invokestatic 48, 3) := by decide +kernel
theorem dJ2_checkBoundsBeginEnd_d044e_6 : decode cJ2_checkBoundsBeginEnd_d044e 6 = .ok (.invokestatic 241, 3) := by decide +kernel
theorem dJ2_checkBoundsBeginEnd_d044e_9 : decode cJ2_checkBoundsBeginEnd_d044e 9 = .ok (.return_, 1) := by decide +kernel
theorem dJ3_checkFromToIndex_8c36e_0 : decode cJ3_checkFromToIndex_8c36e 0 = .ok (.iload_n 0, 1) := by decide +kernel
theorem dJ3_checkFromToIndex_8c36e_1 : decode cJ3_checkFromToIndex_8c36e 1 = .ok (.ifCond .lt 13, 3) := by decide +kernel
theorem dJ3_checkFromToIndex_8c36e_4 : decode cJ3_checkFromToIndex_8c36e 4 = .ok (.iload_n 0, 1) := by decide +kernel
theorem dJ3_checkFromToIndex_8c36e_5 : decode cJ3_checkFromToIndex_8c36e 5 = .ok (.iload_n 1, 1) := by decide +kernel
theorem dJ3_checkFromToIndex_8c36e_6 : decode cJ3_checkFromToIndex_8c36e 6 = .ok (.if_icmp .gt 8, 3) := by decide +kernel
theorem dJ3_checkFromToIndex_8c36e_9 : decode cJ3_checkFromToIndex_8c36e 9 = .ok (.iload_n 1, 1) := by decide +kernel
theorem dJ3_checkFromToIndex_8c36e_10 : decode cJ3_checkFromToIndex_8c36e 10 = .ok (.iload_n 2, 1) := by decide +kernel
theorem dJ3_checkFromToIndex_8c36e_11 : decode cJ3_checkFromToIndex_8c36e 11 = .ok (.if_icmp .le 11, 3) := by decide +kernel
theorem dJ3_checkFromToIndex_8c36e_14 : decode cJ3_checkFromToIndex_8c36e 14 = .ok (.aload_n 3, 1) := by decide +kernel
theorem dJ3_checkFromToIndex_8c36e_15 : decode cJ3_checkFromToIndex_8c36e 15 = .ok (.iload_n 0, 1) := by decide +kernel
theorem dJ3_checkFromToIndex_8c36e_16 : decode cJ3_checkFromToIndex_8c36e 16 = .ok (.iload_n 1, 1) := by decide +kernel
theorem dJ3_checkFromToIndex_8c36e_17 : decode cJ3_checkFromToIndex_8c36e 17 = .ok (.iload_n 2, 1) := by decide +kernel
theorem dJ3_checkFromToIndex_8c36e_18 : decode cJ3_checkFromToIndex_8c36e 18 = .ok (.invokestatic 99, 3) := by decide +kernel
theorem dJ3_checkFromToIndex_8c36e_21 : decode cJ3_checkFromToIndex_8c36e 21 = .ok (.athrow, 1) := by decide +kernel
theorem dJ3_checkFromToIndex_8c36e_22 : decode cJ3_checkFromToIndex_8c36e 22 = .ok (.iload_n 0, 1) := by decide +kernel
theorem dJ3_checkFromToIndex_8c36e_23 : decode cJ3_checkFromToIndex_8c36e 23 = .ok (.ireturn, 1) := by decide +kernel
theorem dL_law_0 : decode cL_law 0 = .ok (.new 7, 3) := by decide +kernel
theorem dL_law_3 : decode cL_law 3 = .ok (.dup, 1) := by decide +kernel
theorem dL_law_4 : decode cL_law 4 = .ok (.invokespecial 9, 3) := by decide +kernel
theorem dL_law_7 : decode cL_law 7 = .ok (.astore_n 1, 1) := by decide +kernel
theorem dL_law_8 : decode cL_law 8 = .ok (.new 10, 3) := by decide +kernel
theorem dL_law_11 : decode cL_law 11 = .ok (.dup, 1) := by decide +kernel
theorem dL_law_12 : decode cL_law 12 = .ok (.invokespecial 12, 3) := by decide +kernel
theorem dL_law_15 : decode cL_law 15 = .ok (.astore_n 2, 1) := by decide +kernel
theorem dL_law_16 : decode cL_law 16 = .ok (.iconst 0, 1) := by decide +kernel
theorem dL_law_17 : decode cL_law 17 = .ok (.istore_n 3, 1) := by decide +kernel
theorem dL_law_18 : decode cL_law 18 = .ok (.iload_n 3, 1) := by decide +kernel
theorem dL_law_19 : decode cL_law 19 = .ok (.aload_n 0, 1) := by decide +kernel
theorem dL_law_20 : decode cL_law 20 = .ok (.arraylength, 1) := by decide +kernel
theorem dL_law_21 : decode cL_law 21 = .ok (.bipush 6, 2) := by decide +kernel
theorem dL_law_23 : decode cL_law 23 = .ok (.isub, 1) := by decide +kernel
theorem dL_law_24 : decode cL_law 24 = .ok (.if_icmp .gt 963, 3) := by decide +kernel
theorem dL_law_27 : decode cL_law 27 = .ok (.aload_n 0, 1) := by decide +kernel
theorem dL_law_28 : decode cL_law 28 = .ok (.iload_n 3, 1) := by decide +kernel
theorem dL_law_29 : decode cL_law 29 = .ok (.iaload, 1) := by decide +kernel
theorem dL_law_30 : decode cL_law 30 = .ok (.bipush 31, 2) := by decide +kernel
theorem dL_law_32 : decode cL_law 32 = .ok (.iand, 1) := by decide +kernel
theorem dL_law_33 : decode cL_law 33 = .ok (.tableswitch 948 0 28 #[131, 194, 217, 250, 273, 296, 329, 362, 395, 428, 451, 464, 487, 530, 553, 586, 609, 642, 655, 688, 721, 754, 777, 820, 853, 876, 889, 902, 925], 131) := by decide +kernel
theorem dL_law_164 : decode cL_law 164 = .ok (.aload_n 1, 1) := by decide +kernel
theorem dL_law_165 : decode cL_law 165 = .ok (.aload_n 0, 1) := by decide +kernel
theorem dL_law_166 : decode cL_law 166 = .ok (.iload_n 3, 1) := by decide +kernel
theorem dL_law_167 : decode cL_law 167 = .ok (.iconst 1, 1) := by decide +kernel
theorem dL_law_168 : decode cL_law 168 = .ok (.iadd, 1) := by decide +kernel
theorem dL_law_169 : decode cL_law 169 = .ok (.iaload, 1) := by decide +kernel
theorem dL_law_170 : decode cL_law 170 = .ok (.aload_n 0, 1) := by decide +kernel
theorem dL_law_171 : decode cL_law 171 = .ok (.iload_n 3, 1) := by decide +kernel
theorem dL_law_172 : decode cL_law 172 = .ok (.iconst 2, 1) := by decide +kernel
theorem dL_law_173 : decode cL_law 173 = .ok (.iadd, 1) := by decide +kernel
theorem dL_law_174 : decode cL_law 174 = .ok (.iaload, 1) := by decide +kernel
theorem dL_law_175 : decode cL_law 175 = .ok (.aload_n 0, 1) := by decide +kernel
theorem dL_law_176 : decode cL_law 176 = .ok (.iload_n 3, 1) := by decide +kernel
theorem dL_law_177 : decode cL_law 177 = .ok (.iconst 3, 1) := by decide +kernel
theorem dL_law_178 : decode cL_law 178 = .ok (.iadd, 1) := by decide +kernel
theorem dL_law_179 : decode cL_law 179 = .ok (.iaload, 1) := by decide +kernel
theorem dL_law_180 : decode cL_law 180 = .ok (.aload_n 0, 1) := by decide +kernel
theorem dL_law_181 : decode cL_law 181 = .ok (.iload_n 3, 1) := by decide +kernel
theorem dL_law_182 : decode cL_law 182 = .ok (.iconst 4, 1) := by decide +kernel
theorem dL_law_183 : decode cL_law 183 = .ok (.iadd, 1) := by decide +kernel
theorem dL_law_184 : decode cL_law 184 = .ok (.iaload, 1) := by decide +kernel
theorem dL_law_185 : decode cL_law 185 = .ok (.aload_n 0, 1) := by decide +kernel
theorem dL_law_186 : decode cL_law 186 = .ok (.iload_n 3, 1) := by decide +kernel
theorem dL_law_187 : decode cL_law 187 = .ok (.iconst 5, 1) := by decide +kernel
theorem dL_law_188 : decode cL_law 188 = .ok (.iadd, 1) := by decide +kernel
theorem dL_law_189 : decode cL_law 189 = .ok (.iaload, 1) := by decide +kernel
theorem dL_law_190 : decode cL_law 190 = .ok (.invokevirtual 13, 3) := by decide +kernel
theorem dL_law_193 : decode cL_law 193 = .ok (.pop, 1) := by decide +kernel
theorem dL_law_194 : decode cL_law 194 = .ok (.aload_n 2, 1) := by decide +kernel
theorem dL_law_195 : decode cL_law 195 = .ok (.aload_n 0, 1) := by decide +kernel
theorem dL_law_196 : decode cL_law 196 = .ok (.iload_n 3, 1) := by decide +kernel
theorem dL_law_197 : decode cL_law 197 = .ok (.iconst 1, 1) := by decide +kernel
theorem dL_law_198 : decode cL_law 198 = .ok (.iadd, 1) := by decide +kernel
theorem dL_law_199 : decode cL_law 199 = .ok (.iaload, 1) := by decide +kernel
theorem dL_law_200 : decode cL_law 200 = .ok (.aload_n 0, 1) := by decide +kernel
theorem dL_law_201 : decode cL_law 201 = .ok (.iload_n 3, 1) := by decide +kernel
theorem dL_law_202 : decode cL_law 202 = .ok (.iconst 2, 1) := by decide +kernel
theorem dL_law_203 : decode cL_law 203 = .ok (.iadd, 1) := by decide +kernel
theorem dL_law_204 : decode cL_law 204 = .ok (.iaload, 1) := by decide +kernel
theorem dL_law_205 : decode cL_law 205 = .ok (.aload_n 0, 1) := by decide +kernel
theorem dL_law_206 : decode cL_law 206 = .ok (.iload_n 3, 1) := by decide +kernel
theorem dL_law_207 : decode cL_law 207 = .ok (.iconst 3, 1) := by decide +kernel
theorem dL_law_208 : decode cL_law 208 = .ok (.iadd, 1) := by decide +kernel
theorem dL_law_209 : decode cL_law 209 = .ok (.iaload, 1) := by decide +kernel
theorem dL_law_210 : decode cL_law 210 = .ok (.aload_n 0, 1) := by decide +kernel
theorem dL_law_211 : decode cL_law 211 = .ok (.iload_n 3, 1) := by decide +kernel
theorem dL_law_212 : decode cL_law 212 = .ok (.iconst 4, 1) := by decide +kernel
theorem dL_law_213 : decode cL_law 213 = .ok (.iadd, 1) := by decide +kernel
theorem dL_law_214 : decode cL_law 214 = .ok (.iaload, 1) := by decide +kernel
theorem dL_law_215 : decode cL_law 215 = .ok (.aload_n 0, 1) := by decide +kernel
theorem dL_law_216 : decode cL_law 216 = .ok (.iload_n 3, 1) := by decide +kernel
theorem dL_law_217 : decode cL_law 217 = .ok (.iconst 5, 1) := by decide +kernel
theorem dL_law_218 : decode cL_law 218 = .ok (.iadd, 1) := by decide +kernel
theorem dL_law_219 : decode cL_law 219 = .ok (.iaload, 1) := by decide +kernel
theorem dL_law_220 : decode cL_law 220 = .ok (.invokevirtual 17, 3) := by decide +kernel
theorem dL_law_223 : decode cL_law 223 = .ok (.pop, 1) := by decide +kernel
theorem dL_law_224 : decode cL_law 224 = .ok (.goto 757, 3) := by decide +kernel
theorem dL_law_227 : decode cL_law 227 = .ok (.aload_n 1, 1) := by decide +kernel
theorem dL_law_228 : decode cL_law 228 = .ok (.aload_n 0, 1) := by decide +kernel
theorem dL_law_229 : decode cL_law 229 = .ok (.iload_n 3, 1) := by decide +kernel
theorem dL_law_230 : decode cL_law 230 = .ok (.iconst 1, 1) := by decide +kernel
theorem dL_law_231 : decode cL_law 231 = .ok (.iadd, 1) := by decide +kernel
theorem dL_law_232 : decode cL_law 232 = .ok (.iaload, 1) := by decide +kernel
theorem dL_law_233 : decode cL_law 233 = .ok (.invokevirtual 18, 3) := by decide +kernel
theorem dL_law_236 : decode cL_law 236 = .ok (.aload_n 2, 1) := by decide +kernel
theorem dL_law_237 : decode cL_law 237 = .ok (.aload_n 0, 1) := by decide +kernel
theorem dL_law_238 : decode cL_law 238 = .ok (.iload_n 3, 1) := by decide +kernel
theorem dL_law_239 : decode cL_law 239 = .ok (.iconst 1, 1) := by decide +kernel
theorem dL_law_240 : decode cL_law 240 = .ok (.iadd, 1) := by decide +kernel
theorem dL_law_241 : decode cL_law 241 = .ok (.iaload, 1) := by decide +kernel
theorem dL_law_242 : decode cL_law 242 = .ok (.invokevirtual 22, 3) := by decide +kernel
theorem dL_law_245 : decode cL_law 245 = .ok (.if_icmp .eq 736, 3) := by decide +kernel
theorem dL_law_248 : decode cL_law 248 = .ok (.iconst 0, 1) := by decide +kernel
theorem dL_law_249 : decode cL_law 249 = .ok (.ireturn, 1) := by decide +kernel
theorem dL_law_250 : decode cL_law 250 = .ok (.aload_n 1, 1) := by decide +kernel
theorem dL_law_251 : decode cL_law 251 = .ok (.aload_n 0, 1) := by decide +kernel
theorem dL_law_252 : decode cL_law 252 = .ok (.iload_n 3, 1) := by decide +kernel
theorem dL_law_253 : decode cL_law 253 = .ok (.iconst 1, 1) := by decide +kernel
theorem dL_law_254 : decode cL_law 254 = .ok (.iadd, 1) := by decide +kernel
theorem dL_law_255 : decode cL_law 255 = .ok (.iaload, 1) := by decide +kernel
theorem dL_law_256 : decode cL_law 256 = .ok (.aload_n 0, 1) := by decide +kernel
theorem dL_law_257 : decode cL_law 257 = .ok (.iload_n 3, 1) := by decide +kernel
theorem dL_law_258 : decode cL_law 258 = .ok (.iconst 2, 1) := by decide +kernel
theorem dL_law_259 : decode cL_law 259 = .ok (.iadd, 1) := by decide +kernel
theorem dL_law_260 : decode cL_law 260 = .ok (.iaload, 1) := by decide +kernel
theorem dL_law_261 : decode cL_law 261 = .ok (.invokevirtual 23, 3) := by decide +kernel
theorem dL_law_264 : decode cL_law 264 = .ok (.pop, 1) := by decide +kernel
theorem dL_law_265 : decode cL_law 265 = .ok (.aload_n 2, 1) := by decide +kernel
theorem dL_law_266 : decode cL_law 266 = .ok (.aload_n 0, 1) := by decide +kernel
theorem dL_law_267 : decode cL_law 267 = .ok (.iload_n 3, 1) := by decide +kernel
theorem dL_law_268 : decode cL_law 268 = .ok (.iconst 1, 1) := by decide +kernel
theorem dL_law_269 : decode cL_law 269 = .ok (.iadd, 1) := by decide +kernel
theorem dL_law_270 : decode cL_law 270 = .ok (.iaload, 1) := by decide +kernel
theorem dL_law_271 : decode cL_law 271 = .ok (.aload_n 0, 1) := by decide +kernel
theorem dL_law_272 : decode cL_law 272 = .ok (.iload_n 3, 1) := by decide +kernel
theorem dL_law_273 : decode cL_law 273 = .ok (.iconst 2, 1) := by decide +kernel
theorem dL_law_274 : decode cL_law 274 = .ok (.iadd, 1) := by decide +kernel
theorem dL_law_275 : decode cL_law 275 = .ok (.iaload, 1) := by decide +kernel
theorem dL_law_276 : decode cL_law 276 = .ok (.invokevirtual 27, 3) := by decide +kernel
theorem dL_law_279 : decode cL_law 279 = .ok (.pop, 1) := by decide +kernel
theorem dL_law_280 : decode cL_law 280 = .ok (.goto 701, 3) := by decide +kernel
theorem dL_law_283 : decode cL_law 283 = .ok (.aload_n 1, 1) := by decide +kernel
theorem dL_law_284 : decode cL_law 284 = .ok (.aload_n 0, 1) := by decide +kernel
theorem dL_law_285 : decode cL_law 285 = .ok (.iload_n 3, 1) := by decide +kernel
theorem dL_law_286 : decode cL_law 286 = .ok (.iconst 1, 1) := by decide +kernel
theorem dL_law_287 : decode cL_law 287 = .ok (.iadd, 1) := by decide +kernel
theorem dL_law_288 : decode cL_law 288 = .ok (.iaload, 1) := by decide +kernel
theorem dL_law_289 : decode cL_law 289 = .ok (.invokevirtual 28, 3) := by decide +kernel
theorem dL_law_292 : decode cL_law 292 = .ok (.pop, 1) := by decide +kernel
theorem dL_law_293 : decode cL_law 293 = .ok (.aload_n 2, 1) := by decide +kernel
theorem dL_law_294 : decode cL_law 294 = .ok (.aload_n 0, 1) := by decide +kernel
theorem dL_law_295 : decode cL_law 295 = .ok (.iload_n 3, 1) := by decide +kernel
theorem dL_law_296 : decode cL_law 296 = .ok (.iconst 1, 1) := by decide +kernel
theorem dL_law_297 : decode cL_law 297 = .ok (.iadd, 1) := by decide +kernel
theorem dL_law_298 : decode cL_law 298 = .ok (.iaload, 1) := by decide +kernel
theorem dL_law_299 : decode cL_law 299 = .ok (.invokevirtual 31, 3) := by decide +kernel
theorem dL_law_302 : decode cL_law 302 = .ok (.pop, 1) := by decide +kernel
theorem dL_law_303 : decode cL_law 303 = .ok (.goto 678, 3) := by decide +kernel
theorem dL_law_306 : decode cL_law 306 = .ok (.aload_n 1, 1) := by decide +kernel
theorem dL_law_307 : decode cL_law 307 = .ok (.aload_n 0, 1) := by decide +kernel
theorem dL_law_308 : decode cL_law 308 = .ok (.iload_n 3, 1) := by decide +kernel
theorem dL_law_309 : decode cL_law 309 = .ok (.iconst 1, 1) := by decide +kernel
theorem dL_law_310 : decode cL_law 310 = .ok (.iadd, 1) := by decide +kernel
theorem dL_law_311 : decode cL_law 311 = .ok (.iaload, 1) := by decide +kernel
theorem dL_law_312 : decode cL_law 312 = .ok (.invokevirtual 32, 3) := by decide +kernel
theorem dL_law_315 : decode cL_law 315 = .ok (.pop, 1) := by decide +kernel
theorem dL_law_316 : decode cL_law 316 = .ok (.aload_n 2, 1) := by decide +kernel
theorem dL_law_317 : decode cL_law 317 = .ok (.aload_n 0, 1) := by decide +kernel
theorem dL_law_318 : decode cL_law 318 = .ok (.iload_n 3, 1) := by decide +kernel
theorem dL_law_319 : decode cL_law 319 = .ok (.iconst 1, 1) := by decide +kernel
theorem dL_law_320 : decode cL_law 320 = .ok (.iadd, 1) := by decide +kernel
theorem dL_law_321 : decode cL_law 321 = .ok (.iaload, 1) := by decide +kernel
theorem dL_law_322 : decode cL_law 322 = .ok (.invokevirtual 35, 3) := by decide +kernel
theorem dL_law_325 : decode cL_law 325 = .ok (.pop, 1) := by decide +kernel
theorem dL_law_326 : decode cL_law 326 = .ok (.goto 655, 3) := by decide +kernel
theorem dL_law_329 : decode cL_law 329 = .ok (.aload_n 1, 1) := by decide +kernel
theorem dL_law_330 : decode cL_law 330 = .ok (.aload_n 0, 1) := by decide +kernel
theorem dL_law_331 : decode cL_law 331 = .ok (.iload_n 3, 1) := by decide +kernel
theorem dL_law_332 : decode cL_law 332 = .ok (.iconst 1, 1) := by decide +kernel
theorem dL_law_333 : decode cL_law 333 = .ok (.iadd, 1) := by decide +kernel
theorem dL_law_334 : decode cL_law 334 = .ok (.iaload, 1) := by decide +kernel
theorem dL_law_335 : decode cL_law 335 = .ok (.aload_n 0, 1) := by decide +kernel
theorem dL_law_336 : decode cL_law 336 = .ok (.iload_n 3, 1) := by decide +kernel
theorem dL_law_337 : decode cL_law 337 = .ok (.iconst 2, 1) := by decide +kernel
theorem dL_law_338 : decode cL_law 338 = .ok (.iadd, 1) := by decide +kernel
theorem dL_law_339 : decode cL_law 339 = .ok (.iaload, 1) := by decide +kernel
theorem dL_law_340 : decode cL_law 340 = .ok (.invokevirtual 36, 3) := by decide +kernel
theorem dL_law_343 : decode cL_law 343 = .ok (.pop, 1) := by decide +kernel
theorem dL_law_344 : decode cL_law 344 = .ok (.aload_n 2, 1) := by decide +kernel
theorem dL_law_345 : decode cL_law 345 = .ok (.aload_n 0, 1) := by decide +kernel
theorem dL_law_346 : decode cL_law 346 = .ok (.iload_n 3, 1) := by decide +kernel
theorem dL_law_347 : decode cL_law 347 = .ok (.iconst 1, 1) := by decide +kernel
theorem dL_law_348 : decode cL_law 348 = .ok (.iadd, 1) := by decide +kernel
theorem dL_law_349 : decode cL_law 349 = .ok (.iaload, 1) := by decide +kernel
theorem dL_law_350 : decode cL_law 350 = .ok (.aload_n 0, 1) := by decide +kernel
theorem dL_law_351 : decode cL_law 351 = .ok (.iload_n 3, 1) := by decide +kernel
theorem dL_law_352 : decode cL_law 352 = .ok (.iconst 2, 1) := by decide +kernel
theorem dL_law_353 : decode cL_law 353 = .ok (.iadd, 1) := by decide +kernel
theorem dL_law_354 : decode cL_law 354 = .ok (.iaload, 1) := by decide +kernel
theorem dL_law_355 : decode cL_law 355 = .ok (.invokevirtual 39, 3) := by decide +kernel
theorem dL_law_358 : decode cL_law 358 = .ok (.pop, 1) := by decide +kernel
theorem dL_law_359 : decode cL_law 359 = .ok (.goto 622, 3) := by decide +kernel
theorem dL_law_362 : decode cL_law 362 = .ok (.aload_n 1, 1) := by decide +kernel
theorem dL_law_363 : decode cL_law 363 = .ok (.aload_n 0, 1) := by decide +kernel
theorem dL_law_364 : decode cL_law 364 = .ok (.iload_n 3, 1) := by decide +kernel
theorem dL_law_365 : decode cL_law 365 = .ok (.iconst 1, 1) := by decide +kernel
theorem dL_law_366 : decode cL_law 366 = .ok (.iadd, 1) := by decide +kernel
theorem dL_law_367 : decode cL_law 367 = .ok (.iaload, 1) := by decide +kernel
theorem dL_law_368 : decode cL_law 368 = .ok (.aload_n 0, 1) := by decide +kernel
theorem dL_law_369 : decode cL_law 369 = .ok (.iload_n 3, 1) := by decide +kernel
theorem dL_law_370 : decode cL_law 370 = .ok (.iconst 2, 1) := by decide +kernel
theorem dL_law_371 : decode cL_law 371 = .ok (.iadd, 1) := by decide +kernel
theorem dL_law_372 : decode cL_law 372 = .ok (.iaload, 1) := by decide +kernel
theorem dL_law_373 : decode cL_law 373 = .ok (.invokevirtual 40, 3) := by decide +kernel
theorem dL_law_376 : decode cL_law 376 = .ok (.pop, 1) := by decide +kernel
theorem dL_law_377 : decode cL_law 377 = .ok (.aload_n 2, 1) := by decide +kernel
theorem dL_law_378 : decode cL_law 378 = .ok (.aload_n 0, 1) := by decide +kernel
theorem dL_law_379 : decode cL_law 379 = .ok (.iload_n 3, 1) := by decide +kernel
theorem dL_law_380 : decode cL_law 380 = .ok (.iconst 1, 1) := by decide +kernel
theorem dL_law_381 : decode cL_law 381 = .ok (.iadd, 1) := by decide +kernel
theorem dL_law_382 : decode cL_law 382 = .ok (.iaload, 1) := by decide +kernel
theorem dL_law_383 : decode cL_law 383 = .ok (.aload_n 0, 1) := by decide +kernel
theorem dL_law_384 : decode cL_law 384 = .ok (.iload_n 3, 1) := by decide +kernel
theorem dL_law_385 : decode cL_law 385 = .ok (.iconst 2, 1) := by decide +kernel
theorem dL_law_386 : decode cL_law 386 = .ok (.iadd, 1) := by decide +kernel
theorem dL_law_387 : decode cL_law 387 = .ok (.iaload, 1) := by decide +kernel
theorem dL_law_388 : decode cL_law 388 = .ok (.invokevirtual 43, 3) := by decide +kernel
theorem dL_law_391 : decode cL_law 391 = .ok (.pop, 1) := by decide +kernel
theorem dL_law_392 : decode cL_law 392 = .ok (.goto 589, 3) := by decide +kernel
theorem dL_law_395 : decode cL_law 395 = .ok (.aload_n 1, 1) := by decide +kernel
theorem dL_law_396 : decode cL_law 396 = .ok (.aload_n 0, 1) := by decide +kernel
theorem dL_law_397 : decode cL_law 397 = .ok (.iload_n 3, 1) := by decide +kernel
theorem dL_law_398 : decode cL_law 398 = .ok (.iconst 1, 1) := by decide +kernel
theorem dL_law_399 : decode cL_law 399 = .ok (.iadd, 1) := by decide +kernel
theorem dL_law_400 : decode cL_law 400 = .ok (.iaload, 1) := by decide +kernel
theorem dL_law_401 : decode cL_law 401 = .ok (.aload_n 0, 1) := by decide +kernel
theorem dL_law_402 : decode cL_law 402 = .ok (.iload_n 3, 1) := by decide +kernel
theorem dL_law_403 : decode cL_law 403 = .ok (.iconst 2, 1) := by decide +kernel
theorem dL_law_404 : decode cL_law 404 = .ok (.iadd, 1) := by decide +kernel
theorem dL_law_405 : decode cL_law 405 = .ok (.iaload, 1) := by decide +kernel
theorem dL_law_406 : decode cL_law 406 = .ok (.invokevirtual 44, 3) := by decide +kernel
theorem dL_law_409 : decode cL_law 409 = .ok (.pop, 1) := by decide +kernel
theorem dL_law_410 : decode cL_law 410 = .ok (.aload_n 2, 1) := by decide +kernel
theorem dL_law_411 : decode cL_law 411 = .ok (.aload_n 0, 1) := by decide +kernel
theorem dL_law_412 : decode cL_law 412 = .ok (.iload_n 3, 1) := by decide +kernel
theorem dL_law_413 : decode cL_law 413 = .ok (.iconst 1, 1) := by decide +kernel
theorem dL_law_414 : decode cL_law 414 = .ok (.iadd, 1) := by decide +kernel
theorem dL_law_415 : decode cL_law 415 = .ok (.iaload, 1) := by decide +kernel
theorem dL_law_416 : decode cL_law 416 = .ok (.aload_n 0, 1) := by decide +kernel
theorem dL_law_417 : decode cL_law 417 = .ok (.iload_n 3, 1) := by decide +kernel
theorem dL_law_418 : decode cL_law 418 = .ok (.iconst 2, 1) := by decide +kernel
theorem dL_law_419 : decode cL_law 419 = .ok (.iadd, 1) := by decide +kernel
theorem dL_law_420 : decode cL_law 420 = .ok (.iaload, 1) := by decide +kernel
theorem dL_law_421 : decode cL_law 421 = .ok (.invokevirtual 47, 3) := by decide +kernel
theorem dL_law_424 : decode cL_law 424 = .ok (.pop, 1) := by decide +kernel
theorem dL_law_425 : decode cL_law 425 = .ok (.goto 556, 3) := by decide +kernel
theorem dL_law_428 : decode cL_law 428 = .ok (.aload_n 1, 1) := by decide +kernel
theorem dL_law_429 : decode cL_law 429 = .ok (.aload_n 0, 1) := by decide +kernel
theorem dL_law_430 : decode cL_law 430 = .ok (.iload_n 3, 1) := by decide +kernel
theorem dL_law_431 : decode cL_law 431 = .ok (.iconst 1, 1) := by decide +kernel
theorem dL_law_432 : decode cL_law 432 = .ok (.iadd, 1) := by decide +kernel
theorem dL_law_433 : decode cL_law 433 = .ok (.iaload, 1) := by decide +kernel
theorem dL_law_434 : decode cL_law 434 = .ok (.aload_n 0, 1) := by decide +kernel
theorem dL_law_435 : decode cL_law 435 = .ok (.iload_n 3, 1) := by decide +kernel
theorem dL_law_436 : decode cL_law 436 = .ok (.iconst 2, 1) := by decide +kernel
theorem dL_law_437 : decode cL_law 437 = .ok (.iadd, 1) := by decide +kernel
theorem dL_law_438 : decode cL_law 438 = .ok (.iaload, 1) := by decide +kernel
theorem dL_law_439 : decode cL_law 439 = .ok (.invokevirtual 48, 3) := by decide +kernel
theorem dL_law_442 : decode cL_law 442 = .ok (.pop, 1) := by decide +kernel
theorem dL_law_443 : decode cL_law 443 = .ok (.aload_n 2, 1) := by decide +kernel
theorem dL_law_444 : decode cL_law 444 = .ok (.aload_n 0, 1) := by decide +kernel
theorem dL_law_445 : decode cL_law 445 = .ok (.iload_n 3, 1) := by decide +kernel
theorem dL_law_446 : decode cL_law 446 = .ok (.iconst 1, 1) := by decide +kernel
theorem dL_law_447 : decode cL_law 447 = .ok (.iadd, 1) := by decide +kernel
theorem dL_law_448 : decode cL_law 448 = .ok (.iaload, 1) := by decide +kernel
theorem dL_law_449 : decode cL_law 449 = .ok (.aload_n 0, 1) := by decide +kernel
theorem dL_law_450 : decode cL_law 450 = .ok (.iload_n 3, 1) := by decide +kernel
theorem dL_law_451 : decode cL_law 451 = .ok (.iconst 2, 1) := by decide +kernel
theorem dL_law_452 : decode cL_law 452 = .ok (.iadd, 1) := by decide +kernel
theorem dL_law_453 : decode cL_law 453 = .ok (.iaload, 1) := by decide +kernel
theorem dL_law_454 : decode cL_law 454 = .ok (.invokevirtual 51, 3) := by decide +kernel
theorem dL_law_457 : decode cL_law 457 = .ok (.pop, 1) := by decide +kernel
theorem dL_law_458 : decode cL_law 458 = .ok (.goto 523, 3) := by decide +kernel
theorem dL_law_461 : decode cL_law 461 = .ok (.aload_n 1, 1) := by decide +kernel
theorem dL_law_462 : decode cL_law 462 = .ok (.aload_n 0, 1) := by decide +kernel
theorem dL_law_463 : decode cL_law 463 = .ok (.iload_n 3, 1) := by decide +kernel
theorem dL_law_464 : decode cL_law 464 = .ok (.iconst 1, 1) := by decide +kernel
theorem dL_law_465 : decode cL_law 465 = .ok (.iadd, 1) := by decide +kernel
theorem dL_law_466 : decode cL_law 466 = .ok (.iaload, 1) := by decide +kernel
theorem dL_law_467 : decode cL_law 467 = .ok (.invokevirtual 52, 3) := by decide +kernel
theorem dL_law_470 : decode cL_law 470 = .ok (.pop, 1) := by decide +kernel
theorem dL_law_471 : decode cL_law 471 = .ok (.aload_n 2, 1) := by decide +kernel
theorem dL_law_472 : decode cL_law 472 = .ok (.aload_n 0, 1) := by decide +kernel
theorem dL_law_473 : decode cL_law 473 = .ok (.iload_n 3, 1) := by decide +kernel
theorem dL_law_474 : decode cL_law 474 = .ok (.iconst 1, 1) := by decide +kernel
theorem dL_law_475 : decode cL_law 475 = .ok (.iadd, 1) := by decide +kernel
theorem dL_law_476 : decode cL_law 476 = .ok (.iaload, 1) := by decide +kernel
theorem dL_law_477 : decode cL_law 477 = .ok (.invokevirtual 55, 3) := by decide +kernel
theorem dL_law_480 : decode cL_law 480 = .ok (.pop, 1) := by decide +kernel
theorem dL_law_481 : decode cL_law 481 = .ok (.goto 500, 3) := by decide +kernel
theorem dL_law_484 : decode cL_law 484 = .ok (.aload_n 1, 1) := by decide +kernel
theorem dL_law_485 : decode cL_law 485 = .ok (.invokevirtual 56, 3) := by decide +kernel
theorem dL_law_488 : decode cL_law 488 = .ok (.pop, 1) := by decide +kernel
theorem dL_law_489 : decode cL_law 489 = .ok (.aload_n 2, 1) := by decide +kernel
theorem dL_law_490 : decode cL_law 490 = .ok (.invokevirtual 60, 3) := by decide +kernel
theorem dL_law_493 : decode cL_law 493 = .ok (.pop, 1) := by decide +kernel
theorem dL_law_494 : decode cL_law 494 = .ok (.goto 487, 3) := by decide +kernel
theorem dL_law_497 : decode cL_law 497 = .ok (.aload_n 1, 1) := by decide +kernel
theorem dL_law_498 : decode cL_law 498 = .ok (.aload_n 0, 1) := by decide +kernel
theorem dL_law_499 : decode cL_law 499 = .ok (.iload_n 3, 1) := by decide +kernel
theorem dL_law_500 : decode cL_law 500 = .ok (.iconst 1, 1) := by decide +kernel
theorem dL_law_501 : decode cL_law 501 = .ok (.iadd, 1) := by decide +kernel
theorem dL_law_502 : decode cL_law 502 = .ok (.iaload, 1) := by decide +kernel
theorem dL_law_503 : decode cL_law 503 = .ok (.invokevirtual 61, 3) := by decide +kernel
theorem dL_law_506 : decode cL_law 506 = .ok (.pop, 1) := by decide +kernel
theorem dL_law_507 : decode cL_law 507 = .ok (.aload_n 2, 1) := by decide +kernel
theorem dL_law_508 : decode cL_law 508 = .ok (.aload_n 0, 1) := by decide +kernel
theorem dL_law_509 : decode cL_law 509 = .ok (.iload_n 3, 1) := by decide +kernel
theorem dL_law_510 : decode cL_law 510 = .ok (.iconst 1, 1) := by decide +kernel
theorem dL_law_511 : decode cL_law 511 = .ok (.iadd, 1) := by decide +kernel
theorem dL_law_512 : decode cL_law 512 = .ok (.iaload, 1) := by decide +kernel
theorem dL_law_513 : decode cL_law 513 = .ok (.invokevirtual 64, 3) := by decide +kernel
theorem dL_law_516 : decode cL_law 516 = .ok (.pop, 1) := by decide +kernel
theorem dL_law_517 : decode cL_law 517 = .ok (.goto 464, 3) := by decide +kernel
theorem dL_law_520 : decode cL_law 520 = .ok (.aload_n 1, 1) := by decide +kernel
theorem dL_law_521 : decode cL_law 521 = .ok (.aload_n 0, 1) := by decide +kernel
theorem dL_law_522 : decode cL_law 522 = .ok (.iload_n 3, 1) := by decide +kernel
theorem dL_law_523 : decode cL_law 523 = .ok (.iconst 1, 1) := by decide +kernel
theorem dL_law_524 : decode cL_law 524 = .ok (.iadd, 1) := by decide +kernel
theorem dL_law_525 : decode cL_law 525 = .ok (.iaload, 1) := by decide +kernel
theorem dL_law_526 : decode cL_law 526 = .ok (.aload_n 0, 1) := by decide +kernel
theorem dL_law_527 : decode cL_law 527 = .ok (.iload_n 3, 1) := by decide +kernel
theorem dL_law_528 : decode cL_law 528 = .ok (.iconst 2, 1) := by decide +kernel
theorem dL_law_529 : decode cL_law 529 = .ok (.iadd, 1) := by decide +kernel
theorem dL_law_530 : decode cL_law 530 = .ok (.iaload, 1) := by decide +kernel
theorem dL_law_531 : decode cL_law 531 = .ok (.aload_n 0, 1) := by decide +kernel
theorem dL_law_532 : decode cL_law 532 = .ok (.iload_n 3, 1) := by decide +kernel
theorem dL_law_533 : decode cL_law 533 = .ok (.iconst 3, 1) := by decide +kernel
theorem dL_law_534 : decode cL_law 534 = .ok (.iadd, 1) := by decide +kernel
theorem dL_law_535 : decode cL_law 535 = .ok (.iaload, 1) := by decide +kernel
theorem dL_law_536 : decode cL_law 536 = .ok (.invokevirtual 65, 3) := by decide +kernel
theorem dL_law_539 : decode cL_law 539 = .ok (.pop, 1) := by decide +kernel
theorem dL_law_540 : decode cL_law 540 = .ok (.aload_n 2, 1) := by decide +kernel
theorem dL_law_541 : decode cL_law 541 = .ok (.aload_n 0, 1) := by decide +kernel
theorem dL_law_542 : decode cL_law 542 = .ok (.iload_n 3, 1) := by decide +kernel
theorem dL_law_543 : decode cL_law 543 = .ok (.iconst 1, 1) := by decide +kernel
theorem dL_law_544 : decode cL_law 544 = .ok (.iadd, 1) := by decide +kernel
theorem dL_law_545 : decode cL_law 545 = .ok (.iaload, 1) := by decide +kernel
theorem dL_law_546 : decode cL_law 546 = .ok (.aload_n 0, 1) := by decide +kernel
theorem dL_law_547 : decode cL_law 547 = .ok (.iload_n 3, 1) := by decide +kernel
theorem dL_law_548 : decode cL_law 548 = .ok (.iconst 2, 1) := by decide +kernel
theorem dL_law_549 : decode cL_law 549 = .ok (.iadd, 1) := by decide +kernel
theorem dL_law_550 : decode cL_law 550 = .ok (.iaload, 1) := by decide +kernel
theorem dL_law_551 : decode cL_law 551 = .ok (.aload_n 0, 1) := by decide +kernel
theorem dL_law_552 : decode cL_law 552 = .ok (.iload_n 3, 1) := by decide +kernel
theorem dL_law_553 : decode cL_law 553 = .ok (.iconst 3, 1) := by decide +kernel
theorem dL_law_554 : decode cL_law 554 = .ok (.iadd, 1) := by decide +kernel
theorem dL_law_555 : decode cL_law 555 = .ok (.iaload, 1) := by decide +kernel
theorem dL_law_556 : decode cL_law 556 = .ok (.invokevirtual 69, 3) := by decide +kernel
theorem dL_law_559 : decode cL_law 559 = .ok (.pop, 1) := by decide +kernel
theorem dL_law_560 : decode cL_law 560 = .ok (.goto 421, 3) := by decide +kernel
theorem dL_law_563 : decode cL_law 563 = .ok (.aload_n 1, 1) := by decide +kernel
theorem dL_law_564 : decode cL_law 564 = .ok (.aload_n 0, 1) := by decide +kernel
theorem dL_law_565 : decode cL_law 565 = .ok (.iload_n 3, 1) := by decide +kernel
theorem dL_law_566 : decode cL_law 566 = .ok (.iconst 1, 1) := by decide +kernel
theorem dL_law_567 : decode cL_law 567 = .ok (.iadd, 1) := by decide +kernel
theorem dL_law_568 : decode cL_law 568 = .ok (.iaload, 1) := by decide +kernel
theorem dL_law_569 : decode cL_law 569 = .ok (.invokevirtual 70, 3) := by decide +kernel
theorem dL_law_572 : decode cL_law 572 = .ok (.pop, 1) := by decide +kernel
theorem dL_law_573 : decode cL_law 573 = .ok (.aload_n 2, 1) := by decide +kernel
theorem dL_law_574 : decode cL_law 574 = .ok (.aload_n 0, 1) := by decide +kernel
theorem dL_law_575 : decode cL_law 575 = .ok (.iload_n 3, 1) := by decide +kernel
theorem dL_law_576 : decode cL_law 576 = .ok (.iconst 1, 1) := by decide +kernel
theorem dL_law_577 : decode cL_law 577 = .ok (.iadd, 1) := by decide +kernel
theorem dL_law_578 : decode cL_law 578 = .ok (.iaload, 1) := by decide +kernel
theorem dL_law_579 : decode cL_law 579 = .ok (.invokevirtual 73, 3) := by decide +kernel
theorem dL_law_582 : decode cL_law 582 = .ok (.pop, 1) := by decide +kernel
theorem dL_law_583 : decode cL_law 583 = .ok (.goto 398, 3) := by decide +kernel
theorem dL_law_586 : decode cL_law 586 = .ok (.aload_n 1, 1) := by decide +kernel
theorem dL_law_587 : decode cL_law 587 = .ok (.aload_n 0, 1) := by decide +kernel
theorem dL_law_588 : decode cL_law 588 = .ok (.iload_n 3, 1) := by decide +kernel
theorem dL_law_589 : decode cL_law 589 = .ok (.iconst 1, 1) := by decide +kernel
theorem dL_law_590 : decode cL_law 590 = .ok (.iadd, 1) := by decide +kernel
theorem dL_law_591 : decode cL_law 591 = .ok (.iaload, 1) := by decide +kernel
theorem dL_law_592 : decode cL_law 592 = .ok (.aload_n 0, 1) := by decide +kernel
theorem dL_law_593 : decode cL_law 593 = .ok (.iload_n 3, 1) := by decide +kernel
theorem dL_law_594 : decode cL_law 594 = .ok (.iconst 2, 1) := by decide +kernel
theorem dL_law_595 : decode cL_law 595 = .ok (.iadd, 1) := by decide +kernel
theorem dL_law_596 : decode cL_law 596 = .ok (.iaload, 1) := by decide +kernel
theorem dL_law_597 : decode cL_law 597 = .ok (.invokevirtual 74, 3) := by decide +kernel
theorem dL_law_600 : decode cL_law 600 = .ok (.pop, 1) := by decide +kernel
theorem dL_law_601 : decode cL_law 601 = .ok (.aload_n 2, 1) := by decide +kernel
theorem dL_law_602 : decode cL_law 602 = .ok (.aload_n 0, 1) := by decide +kernel
theorem dL_law_603 : decode cL_law 603 = .ok (.iload_n 3, 1) := by decide +kernel
theorem dL_law_604 : decode cL_law 604 = .ok (.iconst 1, 1) := by decide +kernel
theorem dL_law_605 : decode cL_law 605 = .ok (.iadd, 1) := by decide +kernel
theorem dL_law_606 : decode cL_law 606 = .ok (.iaload, 1) := by decide +kernel
theorem dL_law_607 : decode cL_law 607 = .ok (.aload_n 0, 1) := by decide +kernel
theorem dL_law_608 : decode cL_law 608 = .ok (.iload_n 3, 1) := by decide +kernel
theorem dL_law_609 : decode cL_law 609 = .ok (.iconst 2, 1) := by decide +kernel
theorem dL_law_610 : decode cL_law 610 = .ok (.iadd, 1) := by decide +kernel
theorem dL_law_611 : decode cL_law 611 = .ok (.iaload, 1) := by decide +kernel
theorem dL_law_612 : decode cL_law 612 = .ok (.invokevirtual 77, 3) := by decide +kernel
theorem dL_law_615 : decode cL_law 615 = .ok (.pop, 1) := by decide +kernel
theorem dL_law_616 : decode cL_law 616 = .ok (.goto 365, 3) := by decide +kernel
theorem dL_law_619 : decode cL_law 619 = .ok (.aload_n 1, 1) := by decide +kernel
theorem dL_law_620 : decode cL_law 620 = .ok (.aload_n 0, 1) := by decide +kernel
theorem dL_law_621 : decode cL_law 621 = .ok (.iload_n 3, 1) := by decide +kernel
theorem dL_law_622 : decode cL_law 622 = .ok (.iconst 1, 1) := by decide +kernel
theorem dL_law_623 : decode cL_law 623 = .ok (.iadd, 1) := by decide +kernel
theorem dL_law_624 : decode cL_law 624 = .ok (.iaload, 1) := by decide +kernel
theorem dL_law_625 : decode cL_law 625 = .ok (.invokevirtual 78, 3) := by decide +kernel
theorem dL_law_628 : decode cL_law 628 = .ok (.pop, 1) := by decide +kernel
theorem dL_law_629 : decode cL_law 629 = .ok (.aload_n 2, 1) := by decide +kernel
theorem dL_law_630 : decode cL_law 630 = .ok (.aload_n 0, 1) := by decide +kernel
theorem dL_law_631 : decode cL_law 631 = .ok (.iload_n 3, 1) := by decide +kernel
theorem dL_law_632 : decode cL_law 632 = .ok (.iconst 1, 1) := by decide +kernel
theorem dL_law_633 : decode cL_law 633 = .ok (.iadd, 1) := by decide +kernel
theorem dL_law_634 : decode cL_law 634 = .ok (.iaload, 1) := by decide +kernel
theorem dL_law_635 : decode cL_law 635 = .ok (.invokevirtual 81, 3) := by decide +kernel
theorem dL_law_638 : decode cL_law 638 = .ok (.pop, 1) := by decide +kernel
theorem dL_law_639 : decode cL_law 639 = .ok (.goto 342, 3) := by decide +kernel
theorem dL_law_642 : decode cL_law 642 = .ok (.aload_n 1, 1) := by decide +kernel
theorem dL_law_643 : decode cL_law 643 = .ok (.aload_n 0, 1) := by decide +kernel
theorem dL_law_644 : decode cL_law 644 = .ok (.iload_n 3, 1) := by decide +kernel
theorem dL_law_645 : decode cL_law 645 = .ok (.iconst 1, 1) := by decide +kernel
theorem dL_law_646 : decode cL_law 646 = .ok (.iadd, 1) := by decide +kernel
theorem dL_law_647 : decode cL_law 647 = .ok (.iaload, 1) := by decide +kernel
theorem dL_law_648 : decode cL_law 648 = .ok (.aload_n 0, 1) := by decide +kernel
theorem dL_law_649 : decode cL_law 649 = .ok (.iload_n 3, 1) := by decide +kernel
theorem dL_law_650 : decode cL_law 650 = .ok (.iconst 2, 1) := by decide +kernel
theorem dL_law_651 : decode cL_law 651 = .ok (.iadd, 1) := by decide +kernel
theorem dL_law_652 : decode cL_law 652 = .ok (.iaload, 1) := by decide +kernel
theorem dL_law_653 : decode cL_law 653 = .ok (.invokevirtual 82, 3) := by decide +kernel
theorem dL_law_656 : decode cL_law 656 = .ok (.pop, 1) := by decide +kernel
theorem dL_law_657 : decode cL_law 657 = .ok (.aload_n 2, 1) := by decide +kernel
theorem dL_law_658 : decode cL_law 658 = .ok (.aload_n 0, 1) := by decide +kernel
theorem dL_law_659 : decode cL_law 659 = .ok (.iload_n 3, 1) := by decide +kernel
theorem dL_law_660 : decode cL_law 660 = .ok (.iconst 1, 1) := by decide +kernel
theorem dL_law_661 : decode cL_law 661 = .ok (.iadd, 1) := by decide +kernel
theorem dL_law_662 : decode cL_law 662 = .ok (.iaload, 1) := by decide +kernel
theorem dL_law_663 : decode cL_law 663 = .ok (.aload_n 0, 1) := by decide +kernel
theorem dL_law_664 : decode cL_law 664 = .ok (.iload_n 3, 1) := by decide +kernel
theorem dL_law_665 : decode cL_law 665 = .ok (.iconst 2, 1) := by decide +kernel
theorem dL_law_666 : decode cL_law 666 = .ok (.iadd, 1) := by decide +kernel
theorem dL_law_667 : decode cL_law 667 = .ok (.iaload, 1) := by decide +kernel
theorem dL_law_668 : decode cL_law 668 = .ok (.invokevirtual 85, 3) := by decide +kernel
theorem dL_law_671 : decode cL_law 671 = .ok (.pop, 1) := by decide +kernel
theorem dL_law_672 : decode cL_law 672 = .ok (.goto 309, 3) := by decide +kernel
theorem dL_law_675 : decode cL_law 675 = .ok (.aload_n 1, 1) := by decide +kernel
theorem dL_law_676 : decode cL_law 676 = .ok (.invokevirtual 86, 3) := by decide +kernel
theorem dL_law_679 : decode cL_law 679 = .ok (.pop, 1) := by decide +kernel
theorem dL_law_680 : decode cL_law 680 = .ok (.aload_n 2, 1) := by decide +kernel
theorem dL_law_681 : decode cL_law 681 = .ok (.invokevirtual 89, 3) := by decide +kernel
theorem dL_law_684 : decode cL_law 684 = .ok (.pop, 1) := by decide +kernel
theorem dL_law_685 : decode cL_law 685 = .ok (.goto 296, 3) := by decide +kernel
theorem dL_law_688 : decode cL_law 688 = .ok (.aload_n 1, 1) := by decide +kernel
theorem dL_law_689 : decode cL_law 689 = .ok (.aload_n 0, 1) := by decide +kernel
theorem dL_law_690 : decode cL_law 690 = .ok (.iload_n 3, 1) := by decide +kernel
theorem dL_law_691 : decode cL_law 691 = .ok (.iconst 1, 1) := by decide +kernel
theorem dL_law_692 : decode cL_law 692 = .ok (.iadd, 1) := by decide +kernel
theorem dL_law_693 : decode cL_law 693 = .ok (.iaload, 1) := by decide +kernel
theorem dL_law_694 : decode cL_law 694 = .ok (.aload_n 0, 1) := by decide +kernel
theorem dL_law_695 : decode cL_law 695 = .ok (.iload_n 3, 1) := by decide +kernel
theorem dL_law_696 : decode cL_law 696 = .ok (.iconst 2, 1) := by decide +kernel
theorem dL_law_697 : decode cL_law 697 = .ok (.iadd, 1) := by decide +kernel
theorem dL_law_698 : decode cL_law 698 = .ok (.iaload, 1) := by decide +kernel
theorem dL_law_699 : decode cL_law 699 = .ok (.invokevirtual 90, 3) := by decide +kernel
theorem dL_law_702 : decode cL_law 702 = .ok (.pop, 1) := by decide +kernel
theorem dL_law_703 : decode cL_law 703 = .ok (.aload_n 2, 1) := by decide +kernel
theorem dL_law_704 : decode cL_law 704 = .ok (.aload_n 0, 1) := by decide +kernel
theorem dL_law_705 : decode cL_law 705 = .ok (.iload_n 3, 1) := by decide +kernel
theorem dL_law_706 : decode cL_law 706 = .ok (.iconst 1, 1) := by decide +kernel
theorem dL_law_707 : decode cL_law 707 = .ok (.iadd, 1) := by decide +kernel
theorem dL_law_708 : decode cL_law 708 = .ok (.iaload, 1) := by decide +kernel
theorem dL_law_709 : decode cL_law 709 = .ok (.aload_n 0, 1) := by decide +kernel
theorem dL_law_710 : decode cL_law 710 = .ok (.iload_n 3, 1) := by decide +kernel
theorem dL_law_711 : decode cL_law 711 = .ok (.iconst 2, 1) := by decide +kernel
theorem dL_law_712 : decode cL_law 712 = .ok (.iadd, 1) := by decide +kernel
theorem dL_law_713 : decode cL_law 713 = .ok (.iaload, 1) := by decide +kernel
theorem dL_law_714 : decode cL_law 714 = .ok (.invokevirtual 93, 3) := by decide +kernel
theorem dL_law_717 : decode cL_law 717 = .ok (.pop, 1) := by decide +kernel
theorem dL_law_718 : decode cL_law 718 = .ok (.goto 263, 3) := by decide +kernel
theorem dL_law_721 : decode cL_law 721 = .ok (.aload_n 1, 1) := by decide +kernel
theorem dL_law_722 : decode cL_law 722 = .ok (.aload_n 0, 1) := by decide +kernel
theorem dL_law_723 : decode cL_law 723 = .ok (.iload_n 3, 1) := by decide +kernel
theorem dL_law_724 : decode cL_law 724 = .ok (.iconst 1, 1) := by decide +kernel
theorem dL_law_725 : decode cL_law 725 = .ok (.iadd, 1) := by decide +kernel
theorem dL_law_726 : decode cL_law 726 = .ok (.iaload, 1) := by decide +kernel
theorem dL_law_727 : decode cL_law 727 = .ok (.aload_n 0, 1) := by decide +kernel
theorem dL_law_728 : decode cL_law 728 = .ok (.iload_n 3, 1) := by decide +kernel
theorem dL_law_729 : decode cL_law 729 = .ok (.iconst 2, 1) := by decide +kernel
theorem dL_law_730 : decode cL_law 730 = .ok (.iadd, 1) := by decide +kernel
theorem dL_law_731 : decode cL_law 731 = .ok (.iaload, 1) := by decide +kernel
theorem dL_law_732 : decode cL_law 732 = .ok (.invokevirtual 94, 3) := by decide +kernel
theorem dL_law_735 : decode cL_law 735 = .ok (.pop, 1) := by decide +kernel
theorem dL_law_736 : decode cL_law 736 = .ok (.aload_n 2, 1) := by decide +kernel
theorem dL_law_737 : decode cL_law 737 = .ok (.aload_n 0, 1) := by decide +kernel
theorem dL_law_738 : decode cL_law 738 = .ok (.iload_n 3, 1) := by decide +kernel
theorem dL_law_739 : decode cL_law 739 = .ok (.iconst 1, 1) := by decide +kernel
theorem dL_law_740 : decode cL_law 740 = .ok (.iadd, 1) := by decide +kernel
theorem dL_law_741 : decode cL_law 741 = .ok (.iaload, 1) := by decide +kernel
theorem dL_law_742 : decode cL_law 742 = .ok (.aload_n 0, 1) := by decide +kernel
theorem dL_law_743 : decode cL_law 743 = .ok (.iload_n 3, 1) := by decide +kernel
theorem dL_law_744 : decode cL_law 744 = .ok (.iconst 2, 1) := by decide +kernel
theorem dL_law_745 : decode cL_law 745 = .ok (.iadd, 1) := by decide +kernel
theorem dL_law_746 : decode cL_law 746 = .ok (.iaload, 1) := by decide +kernel
theorem dL_law_747 : decode cL_law 747 = .ok (.invokevirtual 97, 3) := by decide +kernel
theorem dL_law_750 : decode cL_law 750 = .ok (.pop, 1) := by decide +kernel
theorem dL_law_751 : decode cL_law 751 = .ok (.goto 230, 3) := by decide +kernel
theorem dL_law_754 : decode cL_law 754 = .ok (.aload_n 1, 1) := by decide +kernel
theorem dL_law_755 : decode cL_law 755 = .ok (.aload_n 0, 1) := by decide +kernel
theorem dL_law_756 : decode cL_law 756 = .ok (.iload_n 3, 1) := by decide +kernel
theorem dL_law_757 : decode cL_law 757 = .ok (.iconst 1, 1) := by decide +kernel
theorem dL_law_758 : decode cL_law 758 = .ok (.iadd, 1) := by decide +kernel
theorem dL_law_759 : decode cL_law 759 = .ok (.iaload, 1) := by decide +kernel
theorem dL_law_760 : decode cL_law 760 = .ok (.aload_n 0, 1) := by decide +kernel
theorem dL_law_761 : decode cL_law 761 = .ok (.iload_n 3, 1) := by decide +kernel
theorem dL_law_762 : decode cL_law 762 = .ok (.iconst 2, 1) := by decide +kernel
theorem dL_law_763 : decode cL_law 763 = .ok (.iadd, 1) := by decide +kernel
theorem dL_law_764 : decode cL_law 764 = .ok (.iaload, 1) := by decide +kernel
theorem dL_law_765 : decode cL_law 765 = .ok (.invokevirtual 98, 3) := by decide +kernel
theorem dL_law_768 : decode cL_law 768 = .ok (.pop, 1) := by decide +kernel
theorem dL_law_769 : decode cL_law 769 = .ok (.aload_n 2, 1) := by decide +kernel
theorem dL_law_770 : decode cL_law 770 = .ok (.aload_n 0, 1) := by decide +kernel
theorem dL_law_771 : decode cL_law 771 = .ok (.iload_n 3, 1) := by decide +kernel
theorem dL_law_772 : decode cL_law 772 = .ok (.iconst 1, 1) := by decide +kernel
theorem dL_law_773 : decode cL_law 773 = .ok (.iadd, 1) := by decide +kernel
theorem dL_law_774 : decode cL_law 774 = .ok (.iaload, 1) := by decide +kernel
theorem dL_law_775 : decode cL_law 775 = .ok (.aload_n 0, 1) := by decide +kernel
theorem dL_law_776 : decode cL_law 776 = .ok (.iload_n 3, 1) := by decide +kernel
theorem dL_law_777 : decode cL_law 777 = .ok (.iconst 2, 1) := by decide +kernel
theorem dL_law_778 : decode cL_law 778 = .ok (.iadd, 1) := by decide +kernel
theorem dL_law_779 : decode cL_law 779 = .ok (.iaload, 1) := by decide +kernel
theorem dL_law_780 : decode cL_law 780 = .ok (.invokevirtual 101, 3) := by decide +kernel
theorem dL_law_783 : decode cL_law 783 = .ok (.pop, 1) := by decide +kernel
theorem dL_law_784 : decode cL_law 784 = .ok (.goto 197, 3) := by decide +kernel
theorem dL_law_787 : decode cL_law 787 = .ok (.aload_n 1, 1) := by decide +kernel
theorem dL_law_788 : decode cL_law 788 = .ok (.aload_n 0, 1) := by decide +kernel
theorem dL_law_789 : decode cL_law 789 = .ok (.iload_n 3, 1) := by decide +kernel
theorem dL_law_790 : decode cL_law 790 = .ok (.iconst 1, 1) := by decide +kernel
theorem dL_law_791 : decode cL_law 791 = .ok (.iadd, 1) := by decide +kernel
theorem dL_law_792 : decode cL_law 792 = .ok (.iaload, 1) := by decide +kernel
theorem dL_law_793 : decode cL_law 793 = .ok (.invokevirtual 102, 3) := by decide +kernel
theorem dL_law_796 : decode cL_law 796 = .ok (.pop, 1) := by decide +kernel
theorem dL_law_797 : decode cL_law 797 = .ok (.aload_n 2, 1) := by decide +kernel
theorem dL_law_798 : decode cL_law 798 = .ok (.aload_n 0, 1) := by decide +kernel
theorem dL_law_799 : decode cL_law 799 = .ok (.iload_n 3, 1) := by decide +kernel
theorem dL_law_800 : decode cL_law 800 = .ok (.iconst 1, 1) := by decide +kernel
theorem dL_law_801 : decode cL_law 801 = .ok (.iadd, 1) := by decide +kernel
theorem dL_law_802 : decode cL_law 802 = .ok (.iaload, 1) := by decide +kernel
theorem dL_law_803 : decode cL_law 803 = .ok (.invokevirtual 105, 3) := by decide +kernel
theorem dL_law_806 : decode cL_law 806 = .ok (.pop, 1) := by decide +kernel
theorem dL_law_807 : decode cL_law 807 = .ok (.goto 174, 3) := by decide +kernel
theorem dL_law_810 : decode cL_law 810 = .ok (.aload_n 1, 1) := by decide +kernel
theorem dL_law_811 : decode cL_law 811 = .ok (.aload_n 0, 1) := by decide +kernel
theorem dL_law_812 : decode cL_law 812 = .ok (.iload_n 3, 1) := by decide +kernel
theorem dL_law_813 : decode cL_law 813 = .ok (.iconst 1, 1) := by decide +kernel
theorem dL_law_814 : decode cL_law 814 = .ok (.iadd, 1) := by decide +kernel
theorem dL_law_815 : decode cL_law 815 = .ok (.iaload, 1) := by decide +kernel
theorem dL_law_816 : decode cL_law 816 = .ok (.aload_n 0, 1) := by decide +kernel
theorem dL_law_817 : decode cL_law 817 = .ok (.iload_n 3, 1) := by decide +kernel
theorem dL_law_818 : decode cL_law 818 = .ok (.iconst 2, 1) := by decide +kernel
theorem dL_law_819 : decode cL_law 819 = .ok (.iadd, 1) := by decide +kernel
theorem dL_law_820 : decode cL_law 820 = .ok (.iaload, 1) := by decide +kernel
theorem dL_law_821 : decode cL_law 821 = .ok (.aload_n 0, 1) := by decide +kernel
theorem dL_law_822 : decode cL_law 822 = .ok (.iload_n 3, 1) := by decide +kernel
theorem dL_law_823 : decode cL_law 823 = .ok (.iconst 3, 1) := by decide +kernel
theorem dL_law_824 : decode cL_law 824 = .ok (.iadd, 1) := by decide +kernel
theorem dL_law_825 : decode cL_law 825 = .ok (.iaload, 1) := by decide +kernel
theorem dL_law_826 : decode cL_law 826 = .ok (.invokevirtual 106, 3) := by decide +kernel
theorem dL_law_829 : decode cL_law 829 = .ok (.pop2, 1) := by decide +kernel
theorem dL_law_830 : decode cL_law 830 = .ok (.aload_n 2, 1) := by decide +kernel
theorem dL_law_831 : decode cL_law 831 = .ok (.aload_n 0, 1) := by decide +kernel
theorem dL_law_832 : decode cL_law 832 = .ok (.iload_n 3, 1) := by decide +kernel
theorem dL_law_833 : decode cL_law 833 = .ok (.iconst 1, 1) := by decide +kernel
theorem dL_law_834 : decode cL_law 834 = .ok (.iadd, 1) := by decide +kernel
theorem dL_law_835 : decode cL_law 835 = .ok (.iaload, 1) := by decide +kernel
theorem dL_law_836 : decode cL_law 836 = .ok (.aload_n 0, 1) := by decide +kernel
theorem dL_law_837 : decode cL_law 837 = .ok (.iload_n 3, 1) := by decide +kernel
theorem dL_law_838 : decode cL_law 838 = .ok (.iconst 2, 1) := by decide +kernel
theorem dL_law_839 : decode cL_law 839 = .ok (.iadd, 1) := by decide +kernel
theorem dL_law_840 : decode cL_law 840 = .ok (.iaload, 1) := by decide +kernel
theorem dL_law_841 : decode cL_law 841 = .ok (.aload_n 0, 1) := by decide +kernel
theorem dL_law_842 : decode cL_law 842 = .ok (.iload_n 3, 1) := by decide +kernel
theorem dL_law_843 : decode cL_law 843 = .ok (.iconst 3, 1) := by decide +kernel
theorem dL_law_844 : decode cL_law 844 = .ok (.iadd, 1) := by decide +kernel
theorem dL_law_845 : decode cL_law 845 = .ok (.iaload, 1) := by decide +kernel
theorem dL_law_846 : decode cL_law 846 = .ok (.invokevirtual 110, 3) := by decide +kernel
theorem dL_law_849 : decode cL_law 849 = .ok (.pop2, 1) := by decide +kernel
theorem dL_law_850 : decode cL_law 850 = .ok (.goto 131, 3) := by decide +kernel
theorem dL_law_853 : decode cL_law 853 = .ok (.aload_n 1, 1) := by decide +kernel
theorem dL_law_854 : decode cL_law 854 = .ok (.aload_n 0, 1) := by decide +kernel
theorem dL_law_855 : decode cL_law 855 = .ok (.iload_n 3, 1) := by decide +kernel
theorem dL_law_856 : decode cL_law 856 = .ok (.iconst 1, 1) := by decide +kernel
theorem dL_law_857 : decode cL_law 857 = .ok (.iadd, 1) := by decide +kernel
theorem dL_law_858 : decode cL_law 858 = .ok (.iaload, 1) := by decide +kernel
theorem dL_law_859 : decode cL_law 859 = .ok (.aload_n 0, 1) := by decide +kernel
theorem dL_law_860 : decode cL_law 860 = .ok (.iload_n 3, 1) := by decide +kernel
theorem dL_law_861 : decode cL_law 861 = .ok (.iconst 2, 1) := by decide +kernel
theorem dL_law_862 : decode cL_law 862 = .ok (.iadd, 1) := by decide +kernel
theorem dL_law_863 : decode cL_law 863 = .ok (.iaload, 1) := by decide +kernel
theorem dL_law_864 : decode cL_law 864 = .ok (.invokevirtual 111, 3) := by decide +kernel
theorem dL_law_867 : decode cL_law 867 = .ok (.pop, 1) := by decide +kernel
theorem dL_law_868 : decode cL_law 868 = .ok (.aload_n 2, 1) := by decide +kernel
theorem dL_law_869 : decode cL_law 869 = .ok (.aload_n 0, 1) := by decide +kernel
theorem dL_law_870 : decode cL_law 870 = .ok (.iload_n 3, 1) := by decide +kernel
theorem dL_law_871 : decode cL_law 871 = .ok (.iconst 1, 1) := by decide +kernel
theorem dL_law_872 : decode cL_law 872 = .ok (.iadd, 1) := by decide +kernel
theorem dL_law_873 : decode cL_law 873 = .ok (.iaload, 1) := by decide +kernel
theorem dL_law_874 : decode cL_law 874 = .ok (.aload_n 0, 1) := by decide +kernel
theorem dL_law_875 : decode cL_law 875 = .ok (.iload_n 3, 1) := by decide +kernel
theorem dL_law_876 : decode cL_law 876 = .ok (.iconst 2, 1) := by decide +kernel
theorem dL_law_877 : decode cL_law 877 = .ok (.iadd, 1) := by decide +kernel
theorem dL_law_878 : decode cL_law 878 = .ok (.iaload, 1) := by decide +kernel
theorem dL_law_879 : decode cL_law 879 = .ok (.invokevirtual 114, 3) := by decide +kernel
theorem dL_law_882 : decode cL_law 882 = .ok (.pop, 1) := by decide +kernel
theorem dL_law_883 : decode cL_law 883 = .ok (.goto 98, 3) := by decide +kernel
theorem dL_law_886 : decode cL_law 886 = .ok (.aload_n 1, 1) := by decide +kernel
theorem dL_law_887 : decode cL_law 887 = .ok (.aload_n 0, 1) := by decide +kernel
theorem dL_law_888 : decode cL_law 888 = .ok (.iload_n 3, 1) := by decide +kernel
theorem dL_law_889 : decode cL_law 889 = .ok (.iconst 1, 1) := by decide +kernel
theorem dL_law_890 : decode cL_law 890 = .ok (.iadd, 1) := by decide +kernel
theorem dL_law_891 : decode cL_law 891 = .ok (.iaload, 1) := by decide +kernel
theorem dL_law_892 : decode cL_law 892 = .ok (.invokevirtual 115, 3) := by decide +kernel
theorem dL_law_895 : decode cL_law 895 = .ok (.pop, 1) := by decide +kernel
theorem dL_law_896 : decode cL_law 896 = .ok (.aload_n 2, 1) := by decide +kernel
theorem dL_law_897 : decode cL_law 897 = .ok (.aload_n 0, 1) := by decide +kernel
theorem dL_law_898 : decode cL_law 898 = .ok (.iload_n 3, 1) := by decide +kernel
theorem dL_law_899 : decode cL_law 899 = .ok (.iconst 1, 1) := by decide +kernel
theorem dL_law_900 : decode cL_law 900 = .ok (.iadd, 1) := by decide +kernel
theorem dL_law_901 : decode cL_law 901 = .ok (.iaload, 1) := by decide +kernel
theorem dL_law_902 : decode cL_law 902 = .ok (.invokevirtual 119, 3) := by decide +kernel
theorem dL_law_905 : decode cL_law 905 = .ok (.pop, 1) := by decide +kernel
theorem dL_law_906 : decode cL_law 906 = .ok (.goto 75, 3) := by decide +kernel
theorem dL_law_909 : decode cL_law 909 = .ok (.aload_n 1, 1) := by decide +kernel
theorem dL_law_910 : decode cL_law 910 = .ok (.invokevirtual 120, 3) := by decide +kernel
theorem dL_law_913 : decode cL_law 913 = .ok (.pop, 1) := by decide +kernel
theorem dL_law_914 : decode cL_law 914 = .ok (.aload_n 2, 1) := by decide +kernel
theorem dL_law_915 : decode cL_law 915 = .ok (.invokevirtual 123, 3) := by decide +kernel
theorem dL_law_918 : decode cL_law 918 = .ok (.pop, 1) := by decide +kernel
theorem dL_law_919 : decode cL_law 919 = .ok (.goto 62, 3) := by decide +kernel
theorem dL_law_922 : decode cL_law 922 = .ok (.aload_n 1, 1) := by decide +kernel
theorem dL_law_923 : decode cL_law 923 = .ok (.invokevirtual 124, 3) := by decide +kernel
theorem dL_law_926 : decode cL_law 926 = .ok (.pop, 1) := by decide +kernel
theorem dL_law_927 : decode cL_law 927 = .ok (.aload_n 2, 1) := by decide +kernel
theorem dL_law_928 : decode cL_law 928 = .ok (.invokevirtual 128, 3) := by decide +kernel
theorem dL_law_931 : decode cL_law 931 = .ok (.pop, 1) := by decide +kernel
theorem dL_law_932 : decode cL_law 932 = .ok (.goto 49, 3) := by decide +kernel
theorem dL_law_935 : decode cL_law 935 = .ok (.aload_n 1, 1) := by decide +kernel
theorem dL_law_936 : decode cL_law 936 = .ok (.aload_n 0, 1) := by decide +kernel
theorem dL_law_937 : decode cL_law 937 = .ok (.iload_n 3, 1) := by decide +kernel
theorem dL_law_938 : decode cL_law 938 = .ok (.iconst 1, 1) := by decide +kernel
theorem dL_law_939 : decode cL_law 939 = .ok (.iadd, 1) := by decide +kernel
theorem dL_law_940 : decode cL_law 940 = .ok (.iaload, 1) := by decide +kernel
theorem dL_law_941 : decode cL_law 941 = .ok (.invokevirtual 129, 3) := by decide +kernel
theorem dL_law_944 : decode cL_law 944 = .ok (.pop, 1) := by decide +kernel
theorem dL_law_945 : decode cL_law 945 = .ok (.aload_n 2, 1) := by decide +kernel
theorem dL_law_946 : decode cL_law 946 = .ok (.aload_n 0, 1) := by decide +kernel
theorem dL_law_947 : decode cL_law 947 = .ok (.iload_n 3, 1) := by decide +kernel
theorem dL_law_948 : decode cL_law 948 = .ok (.iconst 1, 1) := by decide +kernel
theorem dL_law_949 : decode cL_law 949 = .ok (.iadd, 1) := by decide +kernel
theorem dL_law_950 : decode cL_law 950 = .ok (.iaload, 1) := by decide +kernel
theorem dL_law_951 : decode cL_law 951 = .ok (.invokevirtual 132, 3) := by decide +kernel
theorem dL_law_954 : decode cL_law 954 = .ok (.pop, 1) := by decide +kernel
theorem dL_law_955 : decode cL_law 955 = .ok (.goto 26, 3) := by decide +kernel
theorem dL_law_958 : decode cL_law 958 = .ok (.aload_n 1, 1) := by decide +kernel
theorem dL_law_959 : decode cL_law 959 = .ok (.aload_n 0, 1) := by decide +kernel
theorem dL_law_960 : decode cL_law 960 = .ok (.iload_n 3, 1) := by decide +kernel
theorem dL_law_961 : decode cL_law 961 = .ok (.iconst 1, 1) := by decide +kernel
theorem dL_law_962 : decode cL_law 962 = .ok (.iadd, 1) := by decide +kernel
theorem dL_law_963 : decode cL_law 963 = .ok (.iaload, 1) := by decide +kernel
theorem dL_law_964 : decode cL_law 964 = .ok (.invokevirtual 133, 3) := by decide +kernel
theorem dL_law_967 : decode cL_law 967 = .ok (.pop, 1) := by decide +kernel
theorem dL_law_968 : decode cL_law 968 = .ok (.aload_n 2, 1) := by decide +kernel
theorem dL_law_969 : decode cL_law 969 = .ok (.aload_n 0, 1) := by decide +kernel
theorem dL_law_970 : decode cL_law 970 = .ok (.iload_n 3, 1) := by decide +kernel
theorem dL_law_971 : decode cL_law 971 = .ok (.iconst 1, 1) := by decide +kernel
theorem dL_law_972 : decode cL_law 972 = .ok (.iadd, 1) := by decide +kernel
theorem dL_law_973 : decode cL_law 973 = .ok (.iaload, 1) := by decide +kernel
theorem dL_law_974 : decode cL_law 974 = .ok (.invokevirtual 136, 3) := by decide +kernel
theorem dL_law_977 : decode cL_law 977 = .ok (.pop, 1) := by decide +kernel
theorem dL_law_978 : decode cL_law 978 = .ok (.goto 3, 3) := by decide +kernel
theorem dL_law_981 : decode cL_law 981 = .ok (.iinc 3 6, 3) := by decide +kernel
theorem dL_law_984 : decode cL_law 984 = .ok (.goto (-966), 3) := by decide +kernel
theorem dL_law_987 : decode cL_law 987 = .ok (.iconst 1, 1) := by decide +kernel
theorem dL_law_988 : decode cL_law 988 = .ok (.ireturn, 1) := by decide +kernel
