theorem dM_price_0 : decode bM_price 0 = .ok (.iload_n 2, 1) := by decide +kernel
theorem dM_price_1 : decode bM_price 1 = .ok (.sipush 1440, 3) := by decide +kernel
theorem dM_price_4 : decode bM_price 4 = .ok (.irem, 1) := by decide +kernel
theorem dM_price_5 : decode bM_price 5 = .ok (.istore_n 3, 1) := by decide +kernel
theorem dM_price_6 : decode bM_price 6 = .ok (.iload_n 3, 1) := by decide +kernel
theorem dM_price_7 : decode bM_price 7 = .ok (.aload_n 0, 1) := by decide +kernel
theorem dM_price_8 : decode bM_price 8 = .ok (.getfield 13, 3) := by decide +kernel
theorem dM_price_11 : decode bM_price 11 = .ok (.iconst 0, 1) := by decide +kernel
theorem dM_price_12 : decode bM_price 12 = .ok (.iaload, 1) := by decide +kernel
theorem dM_price_13 : decode bM_price 13 = .ok (.if_icmp .lt 29, 3) := by decide +kernel
theorem dM_price_16 : decode bM_price 16 = .ok (.iload_n 3, 1) := by decide +kernel
theorem dM_price_17 : decode bM_price 17 = .ok (.aload_n 0, 1) := by decide +kernel
theorem dM_price_18 : decode bM_price 18 = .ok (.getfield 13, 3) := by decide +kernel
theorem dM_price_21 : decode bM_price 21 = .ok (.iconst 1, 1) := by decide +kernel
theorem dM_price_22 : decode bM_price 22 = .ok (.iaload, 1) := by decide +kernel
theorem dM_price_23 : decode bM_price 23 = .ok (.if_icmp .ge 19, 3) := by decide +kernel
theorem dM_price_26 : decode bM_price 26 = .ok (.iload_n 1, 1) := by decide +kernel
theorem dM_price_27 : decode bM_price 27 = .ok (.iload_n 1, 1) := by decide +kernel
theorem dM_price_28 : decode bM_price 28 = .ok (.aload_n 0, 1) := by decide +kernel
theorem dM_price_29 : decode bM_price 29 = .ok (.getfield 13, 3) := by decide +kernel
theorem dM_price_32 : decode bM_price 32 = .ok (.iconst 2, 1) := by decide +kernel
theorem dM_price_33 : decode bM_price 33 = .ok (.iaload, 1) := by decide +kernel
theorem dM_price_34 : decode bM_price 34 = .ok (.imul, 1) := by decide +kernel
theorem dM_price_35 : decode bM_price 35 = .ok (.bipush 100, 2) := by decide +kernel
theorem dM_price_37 : decode bM_price 37 = .ok (.idiv, 1) := by decide +kernel
theorem dM_price_38 : decode bM_price 38 = .ok (.iadd, 1) := by decide +kernel
theorem dM_price_39 : decode bM_price 39 = .ok (.goto 4, 3) := by decide +kernel
theorem dM_price_42 : decode bM_price 42 = .ok (.iload_n 1, 1) := by decide +kernel
theorem dM_price_43 : decode bM_price 43 = .ok (.ireturn, 1) := by decide +kernel
theorem dM_capped_0 : decode bM_capped 0 = .ok (.aload_n 0, 1) := by decide +kernel
theorem dM_capped_1 : decode bM_capped 1 = .ok (.getfield 13, 3) := by decide +kernel
theorem dM_capped_4 : decode bM_capped 4 = .ok (.iconst 3, 1) := by decide +kernel
theorem dM_capped_5 : decode bM_capped 5 = .ok (.iaload, 1) := by decide +kernel
theorem dM_capped_6 : decode bM_capped 6 = .ok (.aload_n 0, 1) := by decide +kernel
theorem dM_capped_7 : decode bM_capped 7 = .ok (.iload_n 2, 1) := by decide +kernel
theorem dM_capped_8 : decode bM_capped 8 = .ok (.invokevirtual 65, 3) := by decide +kernel
theorem dM_capped_11 : decode bM_capped 11 = .ok (.isub, 1) := by decide +kernel
theorem dM_capped_12 : decode bM_capped 12 = .ok (.istore_n 3, 1) := by decide +kernel
theorem dM_capped_13 : decode bM_capped 13 = .ok (.iload_n 1, 1) := by decide +kernel
theorem dM_capped_14 : decode bM_capped 14 = .ok (.iload_n 3, 1) := by decide +kernel
theorem dM_capped_15 : decode bM_capped 15 = .ok (.if_icmp .ge 7, 3) := by decide +kernel
theorem dM_capped_18 : decode bM_capped 18 = .ok (.iload_n 1, 1) := by decide +kernel
theorem dM_capped_19 : decode bM_capped 19 = .ok (.goto 4, 3) := by decide +kernel
theorem dM_capped_22 : decode bM_capped 22 = .ok (.iload_n 3, 1) := by decide +kernel
theorem dM_capped_23 : decode bM_capped 23 = .ok (.istore 4, 2) := by decide +kernel
theorem dM_capped_25 : decode bM_capped 25 = .ok (.iload 4, 2) := by decide +kernel
theorem dM_capped_27 : decode bM_capped 27 = .ok (.ifCond .ge 7, 3) := by decide +kernel
theorem dM_capped_30 : decode bM_capped 30 = .ok (.iconst 0, 1) := by decide +kernel
theorem dM_capped_31 : decode bM_capped 31 = .ok (.goto 5, 3) := by decide +kernel
theorem dM_capped_34 : decode bM_capped 34 = .ok (.iload 4, 2) := by decide +kernel
theorem dM_capped_36 : decode bM_capped 36 = .ok (.ireturn, 1) := by decide +kernel
theorem dM_enter_0 : decode bM_enter 0 = .ok (.aload_n 0, 1) := by decide +kernel
theorem dM_enter_1 : decode bM_enter 1 = .ok (.getfield 19, 3) := by decide +kernel
theorem dM_enter_4 : decode bM_enter 4 = .ok (.iconst 1, 1) := by decide +kernel
theorem dM_enter_5 : decode bM_enter 5 = .ok (.iaload, 1) := by decide +kernel
theorem dM_enter_6 : decode bM_enter 6 = .ok (.ifCond .lt 7, 3) := by decide +kernel
theorem dM_enter_9 : decode bM_enter 9 = .ok (.iconst 1, 1) := by decide +kernel
theorem dM_enter_10 : decode bM_enter 10 = .ok (.goto 4, 3) := by decide +kernel
theorem dM_enter_13 : decode bM_enter 13 = .ok (.iconst 0, 1) := by decide +kernel
theorem dM_enter_14 : decode bM_enter 14 = .ok (.istore_n 3, 1) := by decide +kernel
theorem dM_enter_15 : decode bM_enter 15 = .ok (.iload_n 3, 1) := by decide +kernel
theorem dM_enter_16 : decode bM_enter 16 = .ok (.ifCond .eq 31, 3) := by decide +kernel
theorem dM_enter_19 : decode bM_enter 19 = .ok (.aload_n 0, 1) := by decide +kernel
theorem dM_enter_20 : decode bM_enter 20 = .ok (.aload_n 0, 1) := by decide +kernel
theorem dM_enter_21 : decode bM_enter 21 = .ok (.aload_n 0, 1) := by decide +kernel
theorem dM_enter_22 : decode bM_enter 22 = .ok (.aload_n 0, 1) := by decide +kernel
theorem dM_enter_23 : decode bM_enter 23 = .ok (.getfield 19, 3) := by decide +kernel
theorem dM_enter_26 : decode bM_enter 26 = .ok (.iconst 1, 1) := by decide +kernel
theorem dM_enter_27 : decode bM_enter 27 = .ok (.iaload, 1) := by decide +kernel
theorem dM_enter_28 : decode bM_enter 28 = .ok (.invokevirtual 89, 3) := by decide +kernel
theorem dM_enter_31 : decode bM_enter 31 = .ok (.aload_n 0, 1) := by decide +kernel
theorem dM_enter_32 : decode bM_enter 32 = .ok (.getfield 19, 3) := by decide +kernel
theorem dM_enter_35 : decode bM_enter 35 = .ok (.iconst 2, 1) := by decide +kernel
theorem dM_enter_36 : decode bM_enter 36 = .ok (.iaload, 1) := by decide +kernel
theorem dM_enter_37 : decode bM_enter 37 = .ok (.invokevirtual 92, 3) := by decide +kernel
theorem dM_enter_40 : decode bM_enter 40 = .ok (.iload_n 1, 1) := by decide +kernel
theorem dM_enter_41 : decode bM_enter 41 = .ok (.invokevirtual 95, 3) := by decide +kernel
theorem dM_enter_44 : decode bM_enter 44 = .ok (.goto 4, 3) := by decide +kernel
theorem dM_enter_47 : decode bM_enter 47 = .ok (.iconst 0, 1) := by decide +kernel
theorem dM_enter_48 : decode bM_enter 48 = .ok (.istore 4, 2) := by decide +kernel
theorem dM_enter_50 : decode bM_enter 50 = .ok (.iload_n 3, 1) := by decide +kernel
theorem dM_enter_51 : decode bM_enter 51 = .ok (.ifCond .ne 19, 3) := by decide +kernel
theorem dM_enter_54 : decode bM_enter 54 = .ok (.aload_n 0, 1) := by decide +kernel
theorem dM_enter_55 : decode bM_enter 55 = .ok (.getfield 57, 3) := by decide +kernel
theorem dM_enter_58 : decode bM_enter 58 = .ok (.aload_n 0, 1) := by decide +kernel
theorem dM_enter_59 : decode bM_enter 59 = .ok (.getfield 19, 3) := by decide +kernel
theorem dM_enter_62 : decode bM_enter 62 = .ok (.iconst 5, 1) := by decide +kernel
theorem dM_enter_63 : decode bM_enter 63 = .ok (.iaload, 1) := by decide +kernel
theorem dM_enter_64 : decode bM_enter 64 = .ok (.bipush 30, 2) := by decide +kernel
theorem dM_enter_66 : decode bM_enter 66 = .ok (.iadd, 1) := by decide +kernel
theorem dM_enter_67 : decode bM_enter 67 = .ok (.if_icmp .le 17, 3) := by decide +kernel
theorem dM_enter_70 : decode bM_enter 70 = .ok (.aload_n 0, 1) := by decide +kernel
theorem dM_enter_71 : decode bM_enter 71 = .ok (.getfield 19, 3) := by decide +kernel
theorem dM_enter_74 : decode bM_enter 74 = .ok (.iconst 3, 1) := by decide +kernel
theorem dM_enter_75 : decode bM_enter 75 = .ok (.iload_n 2, 1) := by decide +kernel
theorem dM_enter_76 : decode bM_enter 76 = .ok (.iastore, 1) := by decide +kernel
theorem dM_enter_77 : decode bM_enter 77 = .ok (.aload_n 0, 1) := by decide +kernel
theorem dM_enter_78 : decode bM_enter 78 = .ok (.getfield 19, 3) := by decide +kernel
theorem dM_enter_81 : decode bM_enter 81 = .ok (.iconst 4, 1) := by decide +kernel
theorem dM_enter_82 : decode bM_enter 82 = .ok (.iconst 0, 1) := by decide +kernel
theorem dM_enter_83 : decode bM_enter 83 = .ok (.iastore, 1) := by decide +kernel
theorem dM_enter_84 : decode bM_enter 84 = .ok (.aload_n 0, 1) := by decide +kernel
theorem dM_enter_85 : decode bM_enter 85 = .ok (.getfield 19, 3) := by decide +kernel
theorem dM_enter_88 : decode bM_enter 88 = .ok (.iconst 1, 1) := by decide +kernel
theorem dM_enter_89 : decode bM_enter 89 = .ok (.iload_n 2, 1) := by decide +kernel
theorem dM_enter_90 : decode bM_enter 90 = .ok (.iastore, 1) := by decide +kernel
theorem dM_enter_91 : decode bM_enter 91 = .ok (.aload_n 0, 1) := by decide +kernel
theorem dM_enter_92 : decode bM_enter 92 = .ok (.getfield 19, 3) := by decide +kernel
theorem dM_enter_95 : decode bM_enter 95 = .ok (.iconst 2, 1) := by decide +kernel
theorem dM_enter_96 : decode bM_enter 96 = .ok (.aload_n 0, 1) := by decide +kernel
theorem dM_enter_97 : decode bM_enter 97 = .ok (.getfield 57, 3) := by decide +kernel
theorem dM_enter_100 : decode bM_enter 100 = .ok (.iastore, 1) := by decide +kernel
theorem dM_enter_101 : decode bM_enter 101 = .ok (.iload 4, 2) := by decide +kernel
theorem dM_enter_103 : decode bM_enter 103 = .ok (.ireturn, 1) := by decide +kernel
theorem dM_counter_0 : decode bM_counter 0 = .ok (.aload_n 0, 1) := by decide +kernel
theorem dM_counter_1 : decode bM_counter 1 = .ok (.getfield 16, 3) := by decide +kernel
theorem dM_counter_4 : decode bM_counter 4 = .ok (.aload_n 0, 1) := by decide +kernel
theorem dM_counter_5 : decode bM_counter 5 = .ok (.iload_n 1, 1) := by decide +kernel
theorem dM_counter_6 : decode bM_counter 6 = .ok (.invokevirtual 61, 3) := by decide +kernel
theorem dM_counter_9 : decode bM_counter 9 = .ok (.bipush 7, 2) := by decide +kernel
theorem dM_counter_11 : decode bM_counter 11 = .ok (.iadd, 1) := by decide +kernel
theorem dM_counter_12 : decode bM_counter 12 = .ok (.iaload, 1) := by decide +kernel
theorem dM_counter_13 : decode bM_counter 13 = .ok (.sipush 4096, 3) := by decide +kernel
theorem dM_counter_16 : decode bM_counter 16 = .ok (.idiv, 1) := by decide +kernel
theorem dM_counter_17 : decode bM_counter 17 = .ok (.ireturn, 1) := by decide +kernel
theorem dM_change_0 : decode bM_change 0 = .ok (.aload_n 0, 1) := by decide +kernel
theorem dM_change_1 : decode bM_change 1 = .ok (.iload_n 1, 1) := by decide +kernel
theorem dM_change_2 : decode bM_change 2 = .ok (.invokevirtual 61, 3) := by decide +kernel
theorem dM_change_5 : decode bM_change 5 = .ok (.istore_n 3, 1) := by decide +kernel
theorem dM_change_6 : decode bM_change 6 = .ok (.aload_n 0, 1) := by decide +kernel
theorem dM_change_7 : decode bM_change 7 = .ok (.getfield 19, 3) := by decide +kernel
theorem dM_change_10 : decode bM_change 10 = .ok (.bipush 7, 2) := by decide +kernel
theorem dM_change_12 : decode bM_change 12 = .ok (.aload_n 0, 1) := by decide +kernel
theorem dM_change_13 : decode bM_change 13 = .ok (.iload_n 1, 1) := by decide +kernel
theorem dM_change_14 : decode bM_change 14 = .ok (.invokevirtual 68, 3) := by decide +kernel
theorem dM_change_17 : decode bM_change 17 = .ok (.iconst 1, 1) := by decide +kernel
theorem dM_change_18 : decode bM_change 18 = .ok (.iadd, 1) := by decide +kernel
theorem dM_change_19 : decode bM_change 19 = .ok (.sipush 4096, 3) := by decide +kernel
theorem dM_change_22 : decode bM_change 22 = .ok (.imul, 1) := by decide +kernel
theorem dM_change_23 : decode bM_change 23 = .ok (.aload_n 0, 1) := by decide +kernel
theorem dM_change_24 : decode bM_change 24 = .ok (.getfield 57, 3) := by decide +kernel
theorem dM_change_27 : decode bM_change 27 = .ok (.sipush 1440, 3) := by decide +kernel
theorem dM_change_30 : decode bM_change 30 = .ok (.idiv, 1) := by decide +kernel
theorem dM_change_31 : decode bM_change 31 = .ok (.iadd, 1) := by decide +kernel
theorem dM_change_32 : decode bM_change 32 = .ok (.iastore, 1) := by decide +kernel
theorem dM_change_33 : decode bM_change 33 = .ok (.iload_n 3, 1) := by decide +kernel
theorem dM_change_34 : decode bM_change 34 = .ok (.bipush 16, 2) := by decide +kernel
theorem dM_change_36 : decode bM_change 36 = .ok (.irem, 1) := by decide +kernel
theorem dM_change_37 : decode bM_change 37 = .ok (.ifCond .ne 10, 3) := by decide +kernel
theorem dM_change_40 : decode bM_change 40 = .ok (.iload_n 3, 1) := by decide +kernel
theorem dM_change_41 : decode bM_change 41 = .ok (.bipush 8, 2) := by decide +kernel
theorem dM_change_43 : decode bM_change 43 = .ok (.iadd, 1) := by decide +kernel
theorem dM_change_44 : decode bM_change 44 = .ok (.goto 7, 3) := by decide +kernel
theorem dM_change_47 : decode bM_change 47 = .ok (.iload_n 3, 1) := by decide +kernel
theorem dM_change_48 : decode bM_change 48 = .ok (.bipush 8, 2) := by decide +kernel
theorem dM_change_50 : decode bM_change 50 = .ok (.isub, 1) := by decide +kernel
theorem dM_change_51 : decode bM_change 51 = .ok (.istore 4, 2) := by decide +kernel
theorem dM_change_53 : decode bM_change 53 = .ok (.iconst 0, 1) := by decide +kernel
theorem dM_change_54 : decode bM_change 54 = .ok (.istore 5, 2) := by decide +kernel
theorem dM_change_56 : decode bM_change 56 = .ok (.iload 5, 2) := by decide +kernel
theorem dM_change_58 : decode bM_change 58 = .ok (.iload_n 2, 1) := by decide +kernel
theorem dM_change_59 : decode bM_change 59 = .ok (.if_icmp .ge 26, 3) := by decide +kernel
theorem dM_change_62 : decode bM_change 62 = .ok (.aload_n 0, 1) := by decide +kernel
theorem dM_change_63 : decode bM_change 63 = .ok (.getfield 16, 3) := by decide +kernel
theorem dM_change_66 : decode bM_change 66 = .ok (.iload 4, 2) := by decide +kernel
theorem dM_change_68 : decode bM_change 68 = .ok (.iload 5, 2) := by decide +kernel
theorem dM_change_70 : decode bM_change 70 = .ok (.iadd, 1) := by decide +kernel
theorem dM_change_71 : decode bM_change 71 = .ok (.aload_n 0, 1) := by decide +kernel
theorem dM_change_72 : decode bM_change 72 = .ok (.getfield 19, 3) := by decide +kernel
theorem dM_change_75 : decode bM_change 75 = .ok (.iload 5, 2) := by decide +kernel
theorem dM_change_77 : decode bM_change 77 = .ok (.iaload, 1) := by decide +kernel
theorem dM_change_78 : decode bM_change 78 = .ok (.iastore, 1) := by decide +kernel
theorem dM_change_79 : decode bM_change 79 = .ok (.iinc 5 1, 3) := by decide +kernel
theorem dM_change_82 : decode bM_change 82 = .ok (.goto (-26), 3) := by decide +kernel
theorem dM_change_85 : decode bM_change 85 = .ok (.return_, 1) := by decide +kernel
theorem dM_topUp_0 : decode bM_topUp 0 = .ok (.iload_n 1, 1) := by decide +kernel
theorem dM_topUp_1 : decode bM_topUp 1 = .ok (.iconst 0, 1) := by decide +kernel
theorem dM_topUp_2 : decode bM_topUp 2 = .ok (.iconst 3, 1) := by decide +kernel
theorem dM_topUp_3 : decode bM_topUp 3 = .ok (.invokestatic 53, 3) := by decide +kernel
theorem dM_topUp_6 : decode bM_topUp 6 = .ok (.ifCond .eq 14, 3) := by decide +kernel
theorem dM_topUp_9 : decode bM_topUp 9 = .ok (.iload_n 2, 1) := by decide +kernel
theorem dM_topUp_10 : decode bM_topUp 10 = .ok (.iconst 1, 1) := by decide +kernel
theorem dM_topUp_11 : decode bM_topUp 11 = .ok (.sipush 999, 3) := by decide +kernel
theorem dM_topUp_14 : decode bM_topUp 14 = .ok (.invokestatic 53, 3) := by decide +kernel
theorem dM_topUp_17 : decode bM_topUp 17 = .ok (.ifCond .ne 5, 3) := by decide +kernel
theorem dM_topUp_20 : decode bM_topUp 20 = .ok (.iconst (-1), 1) := by decide +kernel
theorem dM_topUp_21 : decode bM_topUp 21 = .ok (.ireturn, 1) := by decide +kernel
theorem dM_topUp_22 : decode bM_topUp 22 = .ok (.aload_n 0, 1) := by decide +kernel
theorem dM_topUp_23 : decode bM_topUp 23 = .ok (.iload_n 1, 1) := by decide +kernel
theorem dM_topUp_24 : decode bM_topUp 24 = .ok (.invokevirtual 71, 3) := by decide +kernel
theorem dM_topUp_27 : decode bM_topUp 27 = .ok (.aload_n 0, 1) := by decide +kernel
theorem dM_topUp_28 : decode bM_topUp 28 = .ok (.getfield 19, 3) := by decide +kernel
theorem dM_topUp_31 : decode bM_topUp 31 = .ok (.iconst 0, 1) := by decide +kernel
theorem dM_topUp_32 : decode bM_topUp 32 = .ok (.iaload, 1) := by decide +kernel
theorem dM_topUp_33 : decode bM_topUp 33 = .ok (.iload_n 2, 1) := by decide +kernel
theorem dM_topUp_34 : decode bM_topUp 34 = .ok (.iadd, 1) := by decide +kernel
theorem dM_topUp_35 : decode bM_topUp 35 = .ok (.sipush 9999, 3) := by decide +kernel
theorem dM_topUp_38 : decode bM_topUp 38 = .ok (.if_icmp .le 5, 3) := by decide +kernel
theorem dM_topUp_41 : decode bM_topUp 41 = .ok (.iconst (-1), 1) := by decide +kernel
theorem dM_topUp_42 : decode bM_topUp 42 = .ok (.ireturn, 1) := by decide +kernel
theorem dM_topUp_43 : decode bM_topUp 43 = .ok (.aload_n 0, 1) := by decide +kernel
theorem dM_topUp_44 : decode bM_topUp 44 = .ok (.getfield 19, 3) := by decide +kernel
theorem dM_topUp_47 : decode bM_topUp 47 = .ok (.iconst 0, 1) := by decide +kernel
theorem dM_topUp_48 : decode bM_topUp 48 = .ok (.dup2, 1) := by decide +kernel
theorem dM_topUp_49 : decode bM_topUp 49 = .ok (.iaload, 1) := by decide +kernel
theorem dM_topUp_50 : decode bM_topUp 50 = .ok (.iload_n 2, 1) := by decide +kernel
theorem dM_topUp_51 : decode bM_topUp 51 = .ok (.iadd, 1) := by decide +kernel
theorem dM_topUp_52 : decode bM_topUp 52 = .ok (.iastore, 1) := by decide +kernel
theorem dM_topUp_53 : decode bM_topUp 53 = .ok (.aload_n 0, 1) := by decide +kernel
theorem dM_topUp_54 : decode bM_topUp 54 = .ok (.iload_n 1, 1) := by decide +kernel
theorem dM_topUp_55 : decode bM_topUp 55 = .ok (.aload_n 0, 1) := by decide +kernel
theorem dM_topUp_56 : decode bM_topUp 56 = .ok (.iload_n 1, 1) := by decide +kernel
theorem dM_topUp_57 : decode bM_topUp 57 = .ok (.invokevirtual 68, 3) := by decide +kernel
theorem dM_topUp_60 : decode bM_topUp 60 = .ok (.iconst 1, 1) := by decide +kernel
theorem dM_topUp_61 : decode bM_topUp 61 = .ok (.iadd, 1) := by decide +kernel
theorem dM_topUp_62 : decode bM_topUp 62 = .ok (.iconst 2, 1) := by decide +kernel
theorem dM_topUp_63 : decode bM_topUp 63 = .ok (.iload_n 2, 1) := by decide +kernel
theorem dM_topUp_64 : decode bM_topUp 64 = .ok (.aload_n 0, 1) := by decide +kernel
theorem dM_topUp_65 : decode bM_topUp 65 = .ok (.getfield 19, 3) := by decide +kernel
theorem dM_topUp_68 : decode bM_topUp 68 = .ok (.iconst 0, 1) := by decide +kernel
theorem dM_topUp_69 : decode bM_topUp 69 = .ok (.iaload, 1) := by decide +kernel
theorem dM_topUp_70 : decode bM_topUp 70 = .ok (.invokevirtual 98, 3) := by decide +kernel
theorem dM_topUp_73 : decode bM_topUp 73 = .ok (.aload_n 0, 1) := by decide +kernel
theorem dM_topUp_74 : decode bM_topUp 74 = .ok (.iload_n 1, 1) := by decide +kernel
theorem dM_topUp_75 : decode bM_topUp 75 = .ok (.bipush 8, 2) := by decide +kernel
theorem dM_topUp_77 : decode bM_topUp 77 = .ok (.invokevirtual 82, 3) := by decide +kernel
theorem dM_topUp_80 : decode bM_topUp 80 = .ok (.aload_n 0, 1) := by decide +kernel
theorem dM_topUp_81 : decode bM_topUp 81 = .ok (.getfield 19, 3) := by decide +kernel
theorem dM_topUp_84 : decode bM_topUp 84 = .ok (.iconst 0, 1) := by decide +kernel
theorem dM_topUp_85 : decode bM_topUp 85 = .ok (.iaload, 1) := by decide +kernel
theorem dM_topUp_86 : decode bM_topUp 86 = .ok (.ireturn, 1) := by decide +kernel
theorem dM_enterOffice_0 : decode bM_enterOffice 0 = .ok (.aload_n 0, 1) := by decide +kernel
theorem dM_enterOffice_1 : decode bM_enterOffice 1 = .ok (.getfield 44, 3) := by decide +kernel
theorem dM_enterOffice_4 : decode bM_enterOffice 4 = .ok (.sipush 520, 3) := by decide +kernel
theorem dM_enterOffice_7 : decode bM_enterOffice 7 = .ok (.iload_n 1, 1) := by decide +kernel
theorem dM_enterOffice_8 : decode bM_enterOffice 8 = .ok (.imul, 1) := by decide +kernel
theorem dM_enterOffice_9 : decode bM_enterOffice 9 = .ok (.iload_n 2, 1) := by decide +kernel
theorem dM_enterOffice_10 : decode bM_enterOffice 10 = .ok (.iadd, 1) := by decide +kernel
theorem dM_enterOffice_11 : decode bM_enterOffice 11 = .ok (.iload_n 3, 1) := by decide +kernel
theorem dM_enterOffice_12 : decode bM_enterOffice 12 = .ok (.iastore, 1) := by decide +kernel
theorem dM_enterOffice_13 : decode bM_enterOffice 13 = .ok (.aload_n 0, 1) := by decide +kernel
theorem dM_enterOffice_14 : decode bM_enterOffice 14 = .ok (.getfield 47, 3) := by decide +kernel
theorem dM_enterOffice_17 : decode bM_enterOffice 17 = .ok (.sipush 520, 3) := by decide +kernel
theorem dM_enterOffice_20 : decode bM_enterOffice 20 = .ok (.iload_n 1, 1) := by decide +kernel
theorem dM_enterOffice_21 : decode bM_enterOffice 21 = .ok (.imul, 1) := by decide +kernel
theorem dM_enterOffice_22 : decode bM_enterOffice 22 = .ok (.iload_n 2, 1) := by decide +kernel
theorem dM_enterOffice_23 : decode bM_enterOffice 23 = .ok (.iadd, 1) := by decide +kernel
theorem dM_enterOffice_24 : decode bM_enterOffice 24 = .ok (.iload 4, 2) := by decide +kernel
theorem dM_enterOffice_26 : decode bM_enterOffice 26 = .ok (.iastore, 1) := by decide +kernel
theorem dM_enterOffice_27 : decode bM_enterOffice 27 = .ok (.aload_n 0, 1) := by decide +kernel
theorem dM_enterOffice_28 : decode bM_enterOffice 28 = .ok (.getfield 50, 3) := by decide +kernel
theorem dM_enterOffice_31 : decode bM_enterOffice 31 = .ok (.sipush 520, 3) := by decide +kernel
theorem dM_enterOffice_34 : decode bM_enterOffice 34 = .ok (.iload_n 1, 1) := by decide +kernel
theorem dM_enterOffice_35 : decode bM_enterOffice 35 = .ok (.imul, 1) := by decide +kernel
theorem dM_enterOffice_36 : decode bM_enterOffice 36 = .ok (.iload_n 2, 1) := by decide +kernel
theorem dM_enterOffice_37 : decode bM_enterOffice 37 = .ok (.iadd, 1) := by decide +kernel
theorem dM_enterOffice_38 : decode bM_enterOffice 38 = .ok (.iload 5, 2) := by decide +kernel
theorem dM_enterOffice_40 : decode bM_enterOffice 40 = .ok (.iastore, 1) := by decide +kernel
theorem dM_enterOffice_41 : decode bM_enterOffice 41 = .ok (.return_, 1) := by decide +kernel
theorem dM_upload_0 : decode bM_upload 0 = .ok (.iload_n 1, 1) := by decide +kernel
theorem dM_upload_1 : decode bM_upload 1 = .ok (.iconst 0, 1) := by decide +kernel
theorem dM_upload_2 : decode bM_upload 2 = .ok (.iconst 3, 1) := by decide +kernel
theorem dM_upload_3 : decode bM_upload 3 = .ok (.invokestatic 53, 3) := by decide +kernel
theorem dM_upload_6 : decode bM_upload 6 = .ok (.ifCond .ne 5, 3) := by decide +kernel
theorem dM_upload_9 : decode bM_upload 9 = .ok (.iconst (-1), 1) := by decide +kernel
theorem dM_upload_10 : decode bM_upload 10 = .ok (.ireturn, 1) := by decide +kernel
theorem dM_upload_11 : decode bM_upload 11 = .ok (.iload_n 2, 1) := by decide +kernel
theorem dM_upload_12 : decode bM_upload 12 = .ok (.ifCond .eq 5, 3) := by decide +kernel
theorem dM_upload_15 : decode bM_upload 15 = .ok (.iconst 0, 1) := by decide +kernel
theorem dM_upload_16 : decode bM_upload 16 = .ok (.ireturn, 1) := by decide +kernel
theorem dM_upload_17 : decode bM_upload 17 = .ok (.aload_n 0, 1) := by decide +kernel
theorem dM_upload_18 : decode bM_upload 18 = .ok (.getfield 32, 3) := by decide +kernel
theorem dM_upload_21 : decode bM_upload 21 = .ok (.iload_n 1, 1) := by decide +kernel
theorem dM_upload_22 : decode bM_upload 22 = .ok (.iaload, 1) := by decide +kernel
theorem dM_upload_23 : decode bM_upload 23 = .ok (.istore_n 3, 1) := by decide +kernel
theorem dM_upload_24 : decode bM_upload 24 = .ok (.iconst 0, 1) := by decide +kernel
theorem dM_upload_25 : decode bM_upload 25 = .ok (.istore 4, 2) := by decide +kernel
theorem dM_upload_27 : decode bM_upload 27 = .ok (.iload 4, 2) := by decide +kernel
theorem dM_upload_29 : decode bM_upload 29 = .ok (.iload_n 3, 1) := by decide +kernel
theorem dM_upload_30 : decode bM_upload 30 = .ok (.if_icmp .ge 77, 3) := by decide +kernel
theorem dM_upload_33 : decode bM_upload 33 = .ok (.bipush 32, 2) := by decide +kernel
theorem dM_upload_35 : decode bM_upload 35 = .ok (.iload_n 1, 1) := by decide +kernel
theorem dM_upload_36 : decode bM_upload 36 = .ok (.imul, 1) := by decide +kernel
theorem dM_upload_37 : decode bM_upload 37 = .ok (.iconst 4, 1) := by decide +kernel
theorem dM_upload_38 : decode bM_upload 38 = .ok (.iload 4, 2) := by decide +kernel
theorem dM_upload_40 : decode bM_upload 40 = .ok (.imul, 1) := by decide +kernel
theorem dM_upload_41 : decode bM_upload 41 = .ok (.iadd, 1) := by decide +kernel
theorem dM_upload_42 : decode bM_upload 42 = .ok (.istore 5, 2) := by decide +kernel
theorem dM_upload_44 : decode bM_upload 44 = .ok (.aload_n 0, 1) := by decide +kernel
theorem dM_upload_45 : decode bM_upload 45 = .ok (.aload_n 0, 1) := by decide +kernel
theorem dM_upload_46 : decode bM_upload 46 = .ok (.getfield 29, 3) := by decide +kernel
theorem dM_upload_49 : decode bM_upload 49 = .ok (.iload 5, 2) := by decide +kernel
theorem dM_upload_51 : decode bM_upload 51 = .ok (.iaload, 1) := by decide +kernel
theorem dM_upload_52 : decode bM_upload 52 = .ok (.aload_n 0, 1) := by decide +kernel
theorem dM_upload_53 : decode bM_upload 53 = .ok (.getfield 29, 3) := by decide +kernel
theorem dM_upload_56 : decode bM_upload 56 = .ok (.iload 5, 2) := by decide +kernel
theorem dM_upload_58 : decode bM_upload 58 = .ok (.iconst 1, 1) := by decide +kernel
theorem dM_upload_59 : decode bM_upload 59 = .ok (.iadd, 1) := by decide +kernel
theorem dM_upload_60 : decode bM_upload 60 = .ok (.iaload, 1) := by decide +kernel
theorem dM_upload_61 : decode bM_upload 61 = .ok (.iconst 1, 1) := by decide +kernel
theorem dM_upload_62 : decode bM_upload 62 = .ok (.aload_n 0, 1) := by decide +kernel
theorem dM_upload_63 : decode bM_upload 63 = .ok (.getfield 29, 3) := by decide +kernel
theorem dM_upload_66 : decode bM_upload 66 = .ok (.iload 5, 2) := by decide +kernel
theorem dM_upload_68 : decode bM_upload 68 = .ok (.iconst 2, 1) := by decide +kernel
theorem dM_upload_69 : decode bM_upload 69 = .ok (.iadd, 1) := by decide +kernel
theorem dM_upload_70 : decode bM_upload 70 = .ok (.iaload, 1) := by decide +kernel
theorem dM_upload_71 : decode bM_upload 71 = .ok (.aload_n 0, 1) := by decide +kernel
theorem dM_upload_72 : decode bM_upload 72 = .ok (.getfield 29, 3) := by decide +kernel
theorem dM_upload_75 : decode bM_upload 75 = .ok (.iload 5, 2) := by decide +kernel
theorem dM_upload_77 : decode bM_upload 77 = .ok (.iconst 3, 1) := by decide +kernel
theorem dM_upload_78 : decode bM_upload 78 = .ok (.iadd, 1) := by decide +kernel
theorem dM_upload_79 : decode bM_upload 79 = .ok (.iaload, 1) := by decide +kernel
theorem dM_upload_80 : decode bM_upload 80 = .ok (.invokevirtual 98, 3) := by decide +kernel
theorem dM_upload_83 : decode bM_upload 83 = .ok (.aload_n 0, 1) := by decide +kernel
theorem dM_upload_84 : decode bM_upload 84 = .ok (.getfield 41, 3) := by decide +kernel
theorem dM_upload_87 : decode bM_upload 87 = .ok (.iload_n 1, 1) := by decide +kernel
theorem dM_upload_88 : decode bM_upload 88 = .ok (.dup2, 1) := by decide +kernel
theorem dM_upload_89 : decode bM_upload 89 = .ok (.iaload, 1) := by decide +kernel
theorem dM_upload_90 : decode bM_upload 90 = .ok (.aload_n 0, 1) := by decide +kernel
theorem dM_upload_91 : decode bM_upload 91 = .ok (.getfield 29, 3) := by decide +kernel
theorem dM_upload_94 : decode bM_upload 94 = .ok (.iload 5, 2) := by decide +kernel
theorem dM_upload_96 : decode bM_upload 96 = .ok (.iconst 2, 1) := by decide +kernel
theorem dM_upload_97 : decode bM_upload 97 = .ok (.iadd, 1) := by decide +kernel
theorem dM_upload_98 : decode bM_upload 98 = .ok (.iaload, 1) := by decide +kernel
theorem dM_upload_99 : decode bM_upload 99 = .ok (.iadd, 1) := by decide +kernel
theorem dM_upload_100 : decode bM_upload 100 = .ok (.iastore, 1) := by decide +kernel
theorem dM_upload_101 : decode bM_upload 101 = .ok (.iinc 4 1, 3) := by decide +kernel
theorem dM_upload_104 : decode bM_upload 104 = .ok (.goto (-77), 3) := by decide +kernel
theorem dM_upload_107 : decode bM_upload 107 = .ok (.aload_n 0, 1) := by decide +kernel
theorem dM_upload_108 : decode bM_upload 108 = .ok (.getfield 32, 3) := by decide +kernel
theorem dM_upload_111 : decode bM_upload 111 = .ok (.iload_n 1, 1) := by decide +kernel
theorem dM_upload_112 : decode bM_upload 112 = .ok (.iconst 0, 1) := by decide +kernel
theorem dM_upload_113 : decode bM_upload 113 = .ok (.iastore, 1) := by decide +kernel
theorem dM_upload_114 : decode bM_upload 114 = .ok (.iconst 0, 1) := by decide +kernel
theorem dM_upload_115 : decode bM_upload 115 = .ok (.istore 4, 2) := by decide +kernel
theorem dM_upload_117 : decode bM_upload 117 = .ok (.iload 4, 2) := by decide +kernel
theorem dM_upload_119 : decode bM_upload 119 = .ok (.iconst 4, 1) := by decide +kernel
theorem dM_upload_120 : decode bM_upload 120 = .ok (.if_icmp .ge 27, 3) := by decide +kernel
theorem dM_upload_123 : decode bM_upload 123 = .ok (.aload_n 0, 1) := by decide +kernel
theorem dM_upload_124 : decode bM_upload 124 = .ok (.getfield 35, 3) := by decide +kernel
theorem dM_upload_127 : decode bM_upload 127 = .ok (.iconst 4, 1) := by decide +kernel
theorem dM_upload_128 : decode bM_upload 128 = .ok (.iload_n 1, 1) := by decide +kernel
theorem dM_upload_129 : decode bM_upload 129 = .ok (.imul, 1) := by decide +kernel
theorem dM_upload_130 : decode bM_upload 130 = .ok (.iload 4, 2) := by decide +kernel
theorem dM_upload_132 : decode bM_upload 132 = .ok (.iadd, 1) := by decide +kernel
theorem dM_upload_133 : decode bM_upload 133 = .ok (.aload_n 0, 1) := by decide +kernel
theorem dM_upload_134 : decode bM_upload 134 = .ok (.getfield 38, 3) := by decide +kernel
theorem dM_upload_137 : decode bM_upload 137 = .ok (.iload 4, 2) := by decide +kernel
theorem dM_upload_139 : decode bM_upload 139 = .ok (.baload, 1) := by decide +kernel
theorem dM_upload_140 : decode bM_upload 140 = .ok (.bastore, 1) := by decide +kernel
theorem dM_upload_141 : decode bM_upload 141 = .ok (.iinc 4 1, 3) := by decide +kernel
theorem dM_upload_144 : decode bM_upload 144 = .ok (.goto (-27), 3) := by decide +kernel
theorem dM_upload_147 : decode bM_upload 147 = .ok (.iload_n 3, 1) := by decide +kernel
theorem dM_upload_148 : decode bM_upload 148 = .ok (.ireturn, 1) := by decide +kernel
theorem dM_deny_0 : decode bM_deny 0 = .ok (.iload_n 1, 1) := by decide +kernel
theorem dM_deny_1 : decode bM_deny 1 = .ok (.iconst 0, 1) := by decide +kernel
theorem dM_deny_2 : decode bM_deny 2 = .ok (.iconst 3, 1) := by decide +kernel
theorem dM_deny_3 : decode bM_deny 3 = .ok (.invokestatic 53, 3) := by decide +kernel
theorem dM_deny_6 : decode bM_deny 6 = .ok (.ifCond .ne 5, 3) := by decide +kernel
theorem dM_deny_9 : decode bM_deny 9 = .ok (.iconst (-1), 1) := by decide +kernel
theorem dM_deny_10 : decode bM_deny 10 = .ok (.ireturn, 1) := by decide +kernel
theorem dM_deny_11 : decode bM_deny 11 = .ok (.aload_n 0, 1) := by decide +kernel
theorem dM_deny_12 : decode bM_deny 12 = .ok (.getfield 38, 3) := by decide +kernel
theorem dM_deny_15 : decode bM_deny 15 = .ok (.iload_n 1, 1) := by decide +kernel
theorem dM_deny_16 : decode bM_deny 16 = .ok (.iload_n 2, 1) := by decide +kernel
theorem dM_deny_17 : decode bM_deny 17 = .ok (.bastore, 1) := by decide +kernel
theorem dM_deny_18 : decode bM_deny 18 = .ok (.iconst 0, 1) := by decide +kernel
theorem dM_deny_19 : decode bM_deny 19 = .ok (.ireturn, 1) := by decide +kernel
theorem dM_word_0 : decode bM_word 0 = .ok (.iload_n 1, 1) := by decide +kernel
theorem dM_word_1 : decode bM_word 1 = .ok (.iconst 0, 1) := by decide +kernel
theorem dM_word_2 : decode bM_word 2 = .ok (.iconst 3, 1) := by decide +kernel
theorem dM_word_3 : decode bM_word 3 = .ok (.invokestatic 53, 3) := by decide +kernel
theorem dM_word_6 : decode bM_word 6 = .ok (.ifCond .eq 41, 3) := by decide +kernel
theorem dM_word_9 : decode bM_word 9 = .ok (.iload_n 2, 1) := by decide +kernel
theorem dM_word_10 : decode bM_word 10 = .ok (.iconst 0, 1) := by decide +kernel
theorem dM_word_11 : decode bM_word 11 = .ok (.iconst 1, 1) := by decide +kernel
theorem dM_word_12 : decode bM_word 12 = .ok (.invokestatic 53, 3) := by decide +kernel
theorem dM_word_15 : decode bM_word 15 = .ok (.ifCond .eq 32, 3) := by decide +kernel
theorem dM_word_18 : decode bM_word 18 = .ok (.iload_n 3, 1) := by decide +kernel
theorem dM_word_19 : decode bM_word 19 = .ok (.iconst 0, 1) := by decide +kernel
theorem dM_word_20 : decode bM_word 20 = .ok (.bipush 7, 2) := by decide +kernel
theorem dM_word_22 : decode bM_word 22 = .ok (.invokestatic 53, 3) := by decide +kernel
theorem dM_word_25 : decode bM_word 25 = .ok (.ifCond .eq 22, 3) := by decide +kernel
theorem dM_word_28 : decode bM_word 28 = .ok (.aload_n 0, 1) := by decide +kernel
theorem dM_word_29 : decode bM_word 29 = .ok (.getfield 16, 3) := by decide +kernel
theorem dM_word_32 : decode bM_word 32 = .ok (.bipush 16, 2) := by decide +kernel
theorem dM_word_34 : decode bM_word 34 = .ok (.iload_n 1, 1) := by decide +kernel
theorem dM_word_35 : decode bM_word 35 = .ok (.imul, 1) := by decide +kernel
theorem dM_word_36 : decode bM_word 36 = .ok (.bipush 8, 2) := by decide +kernel
theorem dM_word_38 : decode bM_word 38 = .ok (.iload_n 2, 1) := by decide +kernel
theorem dM_word_39 : decode bM_word 39 = .ok (.imul, 1) := by decide +kernel
theorem dM_word_40 : decode bM_word 40 = .ok (.iadd, 1) := by decide +kernel
theorem dM_word_41 : decode bM_word 41 = .ok (.iload_n 3, 1) := by decide +kernel
theorem dM_word_42 : decode bM_word 42 = .ok (.iadd, 1) := by decide +kernel
theorem dM_word_43 : decode bM_word 43 = .ok (.iaload, 1) := by decide +kernel
theorem dM_word_44 : decode bM_word 44 = .ok (.goto 4, 3) := by decide +kernel
theorem dM_word_47 : decode bM_word 47 = .ok (.iconst (-1), 1) := by decide +kernel
theorem dM_word_48 : decode bM_word 48 = .ok (.ireturn, 1) := by decide +kernel
