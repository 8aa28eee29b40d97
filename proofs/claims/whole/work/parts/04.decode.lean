theorem dC_draftTap_0 : decode bC_draftTap 0 = .ok (.aload_n 0, 1) := by decide +kernel
theorem dC_draftTap_1 : decode bC_draftTap 1 = .ok (.iload_n 2, 1) := by decide +kernel
theorem dC_draftTap_2 : decode bC_draftTap 2 = .ok (.invokevirtual 37, 3) := by decide +kernel
theorem dC_draftTap_5 : decode bC_draftTap 5 = .ok (.aload_n 1, 1) := by decide +kernel
theorem dC_draftTap_6 : decode bC_draftTap 6 = .ok (.invokevirtual 41, 3) := by decide +kernel
theorem dC_draftTap_9 : decode bC_draftTap 9 = .ok (.ifCond .eq 16, 3) := by decide +kernel
theorem dC_draftTap_12 : decode bC_draftTap 12 = .ok (.aload_n 0, 1) := by decide +kernel
theorem dC_draftTap_13 : decode bC_draftTap 13 = .ok (.aload_n 1, 1) := by decide +kernel
theorem dC_draftTap_14 : decode bC_draftTap 14 = .ok (.invokevirtual 47, 3) := by decide +kernel
theorem dC_draftTap_17 : decode bC_draftTap 17 = .ok (.iload_n 2, 1) := by decide +kernel
theorem dC_draftTap_18 : decode bC_draftTap 18 = .ok (.aload_n 3, 1) := by decide +kernel
theorem dC_draftTap_19 : decode bC_draftTap 19 = .ok (.invokevirtual 50, 3) := by decide +kernel
theorem dC_draftTap_22 : decode bC_draftTap 22 = .ok (.goto 13, 3) := by decide +kernel
theorem dC_draftTap_25 : decode bC_draftTap 25 = .ok (.aload_n 0, 1) := by decide +kernel
theorem dC_draftTap_26 : decode bC_draftTap 26 = .ok (.aload_n 1, 1) := by decide +kernel
theorem dC_draftTap_27 : decode bC_draftTap 27 = .ok (.invokevirtual 47, 3) := by decide +kernel
theorem dC_draftTap_30 : decode bC_draftTap 30 = .ok (.iload_n 2, 1) := by decide +kernel
theorem dC_draftTap_31 : decode bC_draftTap 31 = .ok (.aload_n 3, 1) := by decide +kernel
theorem dC_draftTap_32 : decode bC_draftTap 32 = .ok (.invokevirtual 54, 3) := by decide +kernel
theorem dC_draftTap_35 : decode bC_draftTap 35 = .ok (.istore 4, 2) := by decide +kernel
theorem dC_draftTap_37 : decode bC_draftTap 37 = .ok (.aload_n 0, 1) := by decide +kernel
theorem dC_draftTap_38 : decode bC_draftTap 38 = .ok (.getfield 16, 3) := by decide +kernel
theorem dC_draftTap_41 : decode bC_draftTap 41 = .ok (.iconst 0, 1) := by decide +kernel
theorem dC_draftTap_42 : decode bC_draftTap 42 = .ok (.dup2, 1) := by decide +kernel
theorem dC_draftTap_43 : decode bC_draftTap 43 = .ok (.iaload, 1) := by decide +kernel
theorem dC_draftTap_44 : decode bC_draftTap 44 = .ok (.iload 4, 2) := by decide +kernel
theorem dC_draftTap_46 : decode bC_draftTap 46 = .ok (.isub, 1) := by decide +kernel
theorem dC_draftTap_47 : decode bC_draftTap 47 = .ok (.iastore, 1) := by decide +kernel
theorem dC_draftTap_48 : decode bC_draftTap 48 = .ok (.aload_n 0, 1) := by decide +kernel
theorem dC_draftTap_49 : decode bC_draftTap 49 = .ok (.getfield 16, 3) := by decide +kernel
theorem dC_draftTap_52 : decode bC_draftTap 52 = .ok (.bipush 6, 2) := by decide +kernel
theorem dC_draftTap_54 : decode bC_draftTap 54 = .ok (.dup2, 1) := by decide +kernel
theorem dC_draftTap_55 : decode bC_draftTap 55 = .ok (.iaload, 1) := by decide +kernel
theorem dC_draftTap_56 : decode bC_draftTap 56 = .ok (.iload 4, 2) := by decide +kernel
theorem dC_draftTap_58 : decode bC_draftTap 58 = .ok (.iadd, 1) := by decide +kernel
theorem dC_draftTap_59 : decode bC_draftTap 59 = .ok (.iastore, 1) := by decide +kernel
theorem dC_draftTap_60 : decode bC_draftTap 60 = .ok (.iload 4, 2) := by decide +kernel
theorem dC_draftTap_62 : decode bC_draftTap 62 = .ok (.ireturn, 1) := by decide +kernel
theorem dC_startDraft_0 : decode bC_startDraft 0 = .ok (.iload_n 1, 1) := by decide +kernel
theorem dC_startDraft_1 : decode bC_startDraft 1 = .ok (.sipush 1440, 3) := by decide +kernel
theorem dC_startDraft_4 : decode bC_startDraft 4 = .ok (.idiv, 1) := by decide +kernel
theorem dC_startDraft_5 : decode bC_startDraft 5 = .ok (.istore_n 2, 1) := by decide +kernel
theorem dC_startDraft_6 : decode bC_startDraft 6 = .ok (.aload_n 0, 1) := by decide +kernel
theorem dC_startDraft_7 : decode bC_startDraft 7 = .ok (.getfield 11, 3) := by decide +kernel
theorem dC_startDraft_10 : decode bC_startDraft 10 = .ok (.aload_n 0, 1) := by decide +kernel
theorem dC_startDraft_11 : decode bC_startDraft 11 = .ok (.invokevirtual 29, 3) := by decide +kernel
theorem dC_startDraft_14 : decode bC_startDraft 14 = .ok (.aaload, 1) := by decide +kernel
theorem dC_startDraft_15 : decode bC_startDraft 15 = .ok (.iconst 0, 1) := by decide +kernel
theorem dC_startDraft_16 : decode bC_startDraft 16 = .ok (.aload_n 0, 1) := by decide +kernel
theorem dC_startDraft_17 : decode bC_startDraft 17 = .ok (.getfield 16, 3) := by decide +kernel
theorem dC_startDraft_20 : decode bC_startDraft 20 = .ok (.iconst 0, 1) := by decide +kernel
theorem dC_startDraft_21 : decode bC_startDraft 21 = .ok (.bipush 8, 2) := by decide +kernel
theorem dC_startDraft_23 : decode bC_startDraft 23 = .ok (.invokestatic 23, 3) := by decide +kernel
theorem dC_startDraft_26 : decode bC_startDraft 26 = .ok (.aload_n 0, 1) := by decide +kernel
theorem dC_startDraft_27 : decode bC_startDraft 27 = .ok (.getfield 16, 3) := by decide +kernel
theorem dC_startDraft_30 : decode bC_startDraft 30 = .ok (.bipush 6, 2) := by decide +kernel
theorem dC_startDraft_32 : decode bC_startDraft 32 = .ok (.aload_n 0, 1) := by decide +kernel
theorem dC_startDraft_33 : decode bC_startDraft 33 = .ok (.iload_n 2, 1) := by decide +kernel
theorem dC_startDraft_34 : decode bC_startDraft 34 = .ok (.invokevirtual 57, 3) := by decide +kernel
theorem dC_startDraft_37 : decode bC_startDraft 37 = .ok (.iastore, 1) := by decide +kernel
theorem dC_startDraft_38 : decode bC_startDraft 38 = .ok (.aload_n 0, 1) := by decide +kernel
theorem dC_startDraft_39 : decode bC_startDraft 39 = .ok (.getfield 16, 3) := by decide +kernel
theorem dC_startDraft_42 : decode bC_startDraft 42 = .ok (.bipush 7, 2) := by decide +kernel
theorem dC_startDraft_44 : decode bC_startDraft 44 = .ok (.aload_n 0, 1) := by decide +kernel
theorem dC_startDraft_45 : decode bC_startDraft 45 = .ok (.invokevirtual 60, 3) := by decide +kernel
theorem dC_startDraft_48 : decode bC_startDraft 48 = .ok (.iconst 1, 1) := by decide +kernel
theorem dC_startDraft_49 : decode bC_startDraft 49 = .ok (.iadd, 1) := by decide +kernel
theorem dC_startDraft_50 : decode bC_startDraft 50 = .ok (.sipush 4096, 3) := by decide +kernel
theorem dC_startDraft_53 : decode bC_startDraft 53 = .ok (.imul, 1) := by decide +kernel
theorem dC_startDraft_54 : decode bC_startDraft 54 = .ok (.iload_n 2, 1) := by decide +kernel
theorem dC_startDraft_55 : decode bC_startDraft 55 = .ok (.iadd, 1) := by decide +kernel
theorem dC_startDraft_56 : decode bC_startDraft 56 = .ok (.iastore, 1) := by decide +kernel
theorem dC_startDraft_57 : decode bC_startDraft 57 = .ok (.return_, 1) := by decide +kernel
theorem dC_spentOn_0 : decode bC_spentOn 0 = .ok (.aload_n 0, 1) := by decide +kernel
theorem dC_spentOn_1 : decode bC_spentOn 1 = .ok (.bipush 7, 2) := by decide +kernel
theorem dC_spentOn_3 : decode bC_spentOn 3 = .ok (.invokevirtual 33, 3) := by decide +kernel
theorem dC_spentOn_6 : decode bC_spentOn 6 = .ok (.sipush 4096, 3) := by decide +kernel
theorem dC_spentOn_9 : decode bC_spentOn 9 = .ok (.irem, 1) := by decide +kernel
theorem dC_spentOn_10 : decode bC_spentOn 10 = .ok (.iload_n 1, 1) := by decide +kernel
theorem dC_spentOn_11 : decode bC_spentOn 11 = .ok (.if_icmp .ne 12, 3) := by decide +kernel
theorem dC_spentOn_14 : decode bC_spentOn 14 = .ok (.aload_n 0, 1) := by decide +kernel
theorem dC_spentOn_15 : decode bC_spentOn 15 = .ok (.bipush 6, 2) := by decide +kernel
theorem dC_spentOn_17 : decode bC_spentOn 17 = .ok (.invokevirtual 33, 3) := by decide +kernel
theorem dC_spentOn_20 : decode bC_spentOn 20 = .ok (.goto 4, 3) := by decide +kernel
theorem dC_spentOn_23 : decode bC_spentOn 23 = .ok (.iconst 0, 1) := by decide +kernel
theorem dC_spentOn_24 : decode bC_spentOn 24 = .ok (.ireturn, 1) := by decide +kernel
theorem dC_counter_0 : decode bC_counter 0 = .ok (.aload_n 0, 1) := by decide +kernel
theorem dC_counter_1 : decode bC_counter 1 = .ok (.bipush 7, 2) := by decide +kernel
theorem dC_counter_3 : decode bC_counter 3 = .ok (.invokevirtual 33, 3) := by decide +kernel
theorem dC_counter_6 : decode bC_counter 6 = .ok (.sipush 4096, 3) := by decide +kernel
theorem dC_counter_9 : decode bC_counter 9 = .ok (.idiv, 1) := by decide +kernel
theorem dC_counter_10 : decode bC_counter 10 = .ok (.ireturn, 1) := by decide +kernel
theorem dV_zone_0 : decode bV_zone 0 = .ok (.aload_n 0, 1) := by decide +kernel
theorem dV_zone_1 : decode bV_zone 1 = .ok (.getfield 16, 3) := by decide +kernel
theorem dV_zone_4 : decode bV_zone 4 = .ok (.ireturn, 1) := by decide +kernel
theorem dC_draftExit_0 : decode bC_draftExit 0 = .ok (.aload_n 0, 1) := by decide +kernel
theorem dC_draftExit_1 : decode bC_draftExit 1 = .ok (.getfield 16, 3) := by decide +kernel
theorem dC_draftExit_4 : decode bC_draftExit 4 = .ok (.iconst 1, 1) := by decide +kernel
theorem dC_draftExit_5 : decode bC_draftExit 5 = .ok (.iaload, 1) := by decide +kernel
theorem dC_draftExit_6 : decode bC_draftExit 6 = .ok (.iconst (-1), 1) := by decide +kernel
theorem dC_draftExit_7 : decode bC_draftExit 7 = .ok (.if_icmp .eq 21, 3) := by decide +kernel
theorem dC_draftExit_10 : decode bC_draftExit 10 = .ok (.iload_n 2, 1) := by decide +kernel
theorem dC_draftExit_11 : decode bC_draftExit 11 = .ok (.aload_n 0, 1) := by decide +kernel
theorem dC_draftExit_12 : decode bC_draftExit 12 = .ok (.getfield 16, 3) := by decide +kernel
theorem dC_draftExit_15 : decode bC_draftExit 15 = .ok (.iconst 2, 1) := by decide +kernel
theorem dC_draftExit_16 : decode bC_draftExit 16 = .ok (.iaload, 1) := by decide +kernel
theorem dC_draftExit_17 : decode bC_draftExit 17 = .ok (.sipush 180, 3) := by decide +kernel
theorem dC_draftExit_20 : decode bC_draftExit 20 = .ok (.iadd, 1) := by decide +kernel
theorem dC_draftExit_21 : decode bC_draftExit 21 = .ok (.if_icmp .gt 7, 3) := by decide +kernel
theorem dC_draftExit_24 : decode bC_draftExit 24 = .ok (.iconst 1, 1) := by decide +kernel
theorem dC_draftExit_25 : decode bC_draftExit 25 = .ok (.goto 4, 3) := by decide +kernel
theorem dC_draftExit_28 : decode bC_draftExit 28 = .ok (.iconst 0, 1) := by decide +kernel
theorem dC_draftExit_29 : decode bC_draftExit 29 = .ok (.istore 4, 2) := by decide +kernel
theorem dC_draftExit_31 : decode bC_draftExit 31 = .ok (.iload 4, 2) := by decide +kernel
theorem dC_draftExit_33 : decode bC_draftExit 33 = .ok (.ifCond .eq 30, 3) := by decide +kernel
theorem dC_draftExit_36 : decode bC_draftExit 36 = .ok (.aload_n 3, 1) := by decide +kernel
theorem dC_draftExit_37 : decode bC_draftExit 37 = .ok (.aload_n 0, 1) := by decide +kernel
theorem dC_draftExit_38 : decode bC_draftExit 38 = .ok (.getfield 16, 3) := by decide +kernel
theorem dC_draftExit_41 : decode bC_draftExit 41 = .ok (.iconst 3, 1) := by decide +kernel
theorem dC_draftExit_42 : decode bC_draftExit 42 = .ok (.iaload, 1) := by decide +kernel
theorem dC_draftExit_43 : decode bC_draftExit 43 = .ok (.iload_n 1, 1) := by decide +kernel
theorem dC_draftExit_44 : decode bC_draftExit 44 = .ok (.aload_n 0, 1) := by decide +kernel
theorem dC_draftExit_45 : decode bC_draftExit 45 = .ok (.getfield 16, 3) := by decide +kernel
theorem dC_draftExit_48 : decode bC_draftExit 48 = .ok (.iconst 2, 1) := by decide +kernel
theorem dC_draftExit_49 : decode bC_draftExit 49 = .ok (.iaload, 1) := by decide +kernel
theorem dC_draftExit_50 : decode bC_draftExit 50 = .ok (.invokevirtual 72, 3) := by decide +kernel
theorem dC_draftExit_53 : decode bC_draftExit 53 = .ok (.aload_n 0, 1) := by decide +kernel
theorem dC_draftExit_54 : decode bC_draftExit 54 = .ok (.getfield 16, 3) := by decide +kernel
theorem dC_draftExit_57 : decode bC_draftExit 57 = .ok (.iconst 4, 1) := by decide +kernel
theorem dC_draftExit_58 : decode bC_draftExit 58 = .ok (.iaload, 1) := by decide +kernel
theorem dC_draftExit_59 : decode bC_draftExit 59 = .ok (.isub, 1) := by decide +kernel
theorem dC_draftExit_60 : decode bC_draftExit 60 = .ok (.goto 10, 3) := by decide +kernel
theorem dC_draftExit_63 : decode bC_draftExit 63 = .ok (.aload_n 0, 1) := by decide +kernel
theorem dC_draftExit_64 : decode bC_draftExit 64 = .ok (.iload_n 1, 1) := by decide +kernel
theorem dC_draftExit_65 : decode bC_draftExit 65 = .ok (.iload_n 2, 1) := by decide +kernel
theorem dC_draftExit_66 : decode bC_draftExit 66 = .ok (.aload_n 3, 1) := by decide +kernel
theorem dC_draftExit_67 : decode bC_draftExit 67 = .ok (.invokevirtual 76, 3) := by decide +kernel
theorem dC_draftExit_70 : decode bC_draftExit 70 = .ok (.istore 5, 2) := by decide +kernel
theorem dC_draftExit_72 : decode bC_draftExit 72 = .ok (.aload_n 3, 1) := by decide +kernel
theorem dC_draftExit_73 : decode bC_draftExit 73 = .ok (.iload 5, 2) := by decide +kernel
theorem dC_draftExit_75 : decode bC_draftExit 75 = .ok (.aload_n 0, 1) := by decide +kernel
theorem dC_draftExit_76 : decode bC_draftExit 76 = .ok (.getfield 16, 3) := by decide +kernel
theorem dC_draftExit_79 : decode bC_draftExit 79 = .ok (.bipush 6, 2) := by decide +kernel
theorem dC_draftExit_81 : decode bC_draftExit 81 = .ok (.iaload, 1) := by decide +kernel
theorem dC_draftExit_82 : decode bC_draftExit 82 = .ok (.invokevirtual 69, 3) := by decide +kernel
theorem dC_draftExit_85 : decode bC_draftExit 85 = .ok (.istore 6, 2) := by decide +kernel
theorem dC_draftExit_87 : decode bC_draftExit 87 = .ok (.aload_n 0, 1) := by decide +kernel
theorem dC_draftExit_88 : decode bC_draftExit 88 = .ok (.getfield 16, 3) := by decide +kernel
theorem dC_draftExit_91 : decode bC_draftExit 91 = .ok (.iconst 4, 1) := by decide +kernel
theorem dC_draftExit_92 : decode bC_draftExit 92 = .ok (.iload 4, 2) := by decide +kernel
theorem dC_draftExit_94 : decode bC_draftExit 94 = .ok (.ifCond .eq 15, 3) := by decide +kernel
theorem dC_draftExit_97 : decode bC_draftExit 97 = .ok (.aload_n 0, 1) := by decide +kernel
theorem dC_draftExit_98 : decode bC_draftExit 98 = .ok (.getfield 16, 3) := by decide +kernel
theorem dC_draftExit_101 : decode bC_draftExit 101 = .ok (.iconst 4, 1) := by decide +kernel
theorem dC_draftExit_102 : decode bC_draftExit 102 = .ok (.iaload, 1) := by decide +kernel
theorem dC_draftExit_103 : decode bC_draftExit 103 = .ok (.iload 6, 2) := by decide +kernel
theorem dC_draftExit_105 : decode bC_draftExit 105 = .ok (.iadd, 1) := by decide +kernel
theorem dC_draftExit_106 : decode bC_draftExit 106 = .ok (.goto 4, 3) := by decide +kernel
theorem dC_draftExit_109 : decode bC_draftExit 109 = .ok (.iconst 0, 1) := by decide +kernel
theorem dC_draftExit_110 : decode bC_draftExit 110 = .ok (.iastore, 1) := by decide +kernel
theorem dC_draftExit_111 : decode bC_draftExit 111 = .ok (.aload_n 0, 1) := by decide +kernel
theorem dC_draftExit_112 : decode bC_draftExit 112 = .ok (.getfield 16, 3) := by decide +kernel
theorem dC_draftExit_115 : decode bC_draftExit 115 = .ok (.iconst 5, 1) := by decide +kernel
theorem dC_draftExit_116 : decode bC_draftExit 116 = .ok (.iload 4, 2) := by decide +kernel
theorem dC_draftExit_118 : decode bC_draftExit 118 = .ok (.ifCond .eq 7, 3) := by decide +kernel
theorem dC_draftExit_121 : decode bC_draftExit 121 = .ok (.iload_n 2, 1) := by decide +kernel
theorem dC_draftExit_122 : decode bC_draftExit 122 = .ok (.goto 6, 3) := by decide +kernel
theorem dC_draftExit_125 : decode bC_draftExit 125 = .ok (.sipush (-1000), 3) := by decide +kernel
theorem dC_draftExit_128 : decode bC_draftExit 128 = .ok (.iastore, 1) := by decide +kernel
theorem dC_draftExit_129 : decode bC_draftExit 129 = .ok (.aload_n 0, 1) := by decide +kernel
theorem dC_draftExit_130 : decode bC_draftExit 130 = .ok (.getfield 16, 3) := by decide +kernel
theorem dC_draftExit_133 : decode bC_draftExit 133 = .ok (.iconst 1, 1) := by decide +kernel
theorem dC_draftExit_134 : decode bC_draftExit 134 = .ok (.iconst (-1), 1) := by decide +kernel
theorem dC_draftExit_135 : decode bC_draftExit 135 = .ok (.iastore, 1) := by decide +kernel
theorem dC_draftExit_136 : decode bC_draftExit 136 = .ok (.iload 6, 2) := by decide +kernel
theorem dC_draftExit_138 : decode bC_draftExit 138 = .ok (.ireturn, 1) := by decide +kernel
theorem dT_priceBetween_0 : decode bT_priceBetween 0 = .ok (.iload_n 1, 1) := by decide +kernel
theorem dT_priceBetween_1 : decode bT_priceBetween 1 = .ok (.bipush 6, 2) := by decide +kernel
theorem dT_priceBetween_3 : decode bT_priceBetween 3 = .ok (.invokestatic 28, 3) := by decide +kernel
theorem dT_priceBetween_6 : decode bT_priceBetween 6 = .ok (.ifCond .eq 28, 3) := by decide +kernel
theorem dT_priceBetween_9 : decode bT_priceBetween 9 = .ok (.iload_n 2, 1) := by decide +kernel
theorem dT_priceBetween_10 : decode bT_priceBetween 10 = .ok (.bipush 6, 2) := by decide +kernel
theorem dT_priceBetween_12 : decode bT_priceBetween 12 = .ok (.invokestatic 28, 3) := by decide +kernel
theorem dT_priceBetween_15 : decode bT_priceBetween 15 = .ok (.ifCond .eq 19, 3) := by decide +kernel
theorem dT_priceBetween_18 : decode bT_priceBetween 18 = .ok (.aload_n 0, 1) := by decide +kernel
theorem dT_priceBetween_19 : decode bT_priceBetween 19 = .ok (.aload_n 0, 1) := by decide +kernel
theorem dT_priceBetween_20 : decode bT_priceBetween 20 = .ok (.getfield 11, 3) := by decide +kernel
theorem dT_priceBetween_23 : decode bT_priceBetween 23 = .ok (.iload_n 1, 1) := by decide +kernel
theorem dT_priceBetween_24 : decode bT_priceBetween 24 = .ok (.aaload, 1) := by decide +kernel
theorem dT_priceBetween_25 : decode bT_priceBetween 25 = .ok (.iload_n 2, 1) := by decide +kernel
theorem dT_priceBetween_26 : decode bT_priceBetween 26 = .ok (.iaload, 1) := by decide +kernel
theorem dT_priceBetween_27 : decode bT_priceBetween 27 = .ok (.iload_n 3, 1) := by decide +kernel
theorem dT_priceBetween_28 : decode bT_priceBetween 28 = .ok (.invokevirtual 32, 3) := by decide +kernel
theorem dT_priceBetween_31 : decode bT_priceBetween 31 = .ok (.goto 4, 3) := by decide +kernel
theorem dT_priceBetween_34 : decode bT_priceBetween 34 = .ok (.iconst 0, 1) := by decide +kernel
theorem dT_priceBetween_35 : decode bT_priceBetween 35 = .ok (.ireturn, 1) := by decide +kernel
theorem dT_price_0 : decode bT_price 0 = .ok (.iload_n 2, 1) := by decide +kernel
theorem dT_price_1 : decode bT_price 1 = .ok (.sipush 1440, 3) := by decide +kernel
theorem dT_price_4 : decode bT_price 4 = .ok (.irem, 1) := by decide +kernel
theorem dT_price_5 : decode bT_price 5 = .ok (.istore_n 3, 1) := by decide +kernel
theorem dT_price_6 : decode bT_price 6 = .ok (.iload_n 3, 1) := by decide +kernel
theorem dT_price_7 : decode bT_price 7 = .ok (.aload_n 0, 1) := by decide +kernel
theorem dT_price_8 : decode bT_price 8 = .ok (.getfield 25, 3) := by decide +kernel
theorem dT_price_11 : decode bT_price 11 = .ok (.iconst 0, 1) := by decide +kernel
theorem dT_price_12 : decode bT_price 12 = .ok (.iaload, 1) := by decide +kernel
theorem dT_price_13 : decode bT_price 13 = .ok (.if_icmp .lt 17, 3) := by decide +kernel
theorem dT_price_16 : decode bT_price 16 = .ok (.iload_n 3, 1) := by decide +kernel
theorem dT_price_17 : decode bT_price 17 = .ok (.aload_n 0, 1) := by decide +kernel
theorem dT_price_18 : decode bT_price 18 = .ok (.getfield 25, 3) := by decide +kernel
theorem dT_price_21 : decode bT_price 21 = .ok (.iconst 1, 1) := by decide +kernel
theorem dT_price_22 : decode bT_price 22 = .ok (.iaload, 1) := by decide +kernel
theorem dT_price_23 : decode bT_price 23 = .ok (.if_icmp .ge 7, 3) := by decide +kernel
theorem dT_price_26 : decode bT_price 26 = .ok (.iconst 1, 1) := by decide +kernel
theorem dT_price_27 : decode bT_price 27 = .ok (.goto 4, 3) := by decide +kernel
theorem dT_price_30 : decode bT_price 30 = .ok (.iconst 0, 1) := by decide +kernel
theorem dT_price_31 : decode bT_price 31 = .ok (.istore 4, 2) := by decide +kernel
theorem dT_price_33 : decode bT_price 33 = .ok (.iload 4, 2) := by decide +kernel
theorem dT_price_35 : decode bT_price 35 = .ok (.ifCond .eq 19, 3) := by decide +kernel
theorem dT_price_38 : decode bT_price 38 = .ok (.iload_n 1, 1) := by decide +kernel
theorem dT_price_39 : decode bT_price 39 = .ok (.iload_n 1, 1) := by decide +kernel
theorem dT_price_40 : decode bT_price 40 = .ok (.aload_n 0, 1) := by decide +kernel
theorem dT_price_41 : decode bT_price 41 = .ok (.getfield 25, 3) := by decide +kernel
theorem dT_price_44 : decode bT_price 44 = .ok (.iconst 2, 1) := by decide +kernel
theorem dT_price_45 : decode bT_price 45 = .ok (.iaload, 1) := by decide +kernel
theorem dT_price_46 : decode bT_price 46 = .ok (.imul, 1) := by decide +kernel
theorem dT_price_47 : decode bT_price 47 = .ok (.bipush 100, 2) := by decide +kernel
theorem dT_price_49 : decode bT_price 49 = .ok (.idiv, 1) := by decide +kernel
theorem dT_price_50 : decode bT_price 50 = .ok (.iadd, 1) := by decide +kernel
theorem dT_price_51 : decode bT_price 51 = .ok (.goto 4, 3) := by decide +kernel
theorem dT_price_54 : decode bT_price 54 = .ok (.iload_n 1, 1) := by decide +kernel
theorem dT_price_55 : decode bT_price 55 = .ok (.ireturn, 1) := by decide +kernel
theorem dC_priceOutOfTime_0 : decode bC_priceOutOfTime 0 = .ok (.aload_n 0, 1) := by decide +kernel
theorem dC_priceOutOfTime_1 : decode bC_priceOutOfTime 1 = .ok (.getfield 16, 3) := by decide +kernel
theorem dC_priceOutOfTime_4 : decode bC_priceOutOfTime 4 = .ok (.iconst 1, 1) := by decide +kernel
theorem dC_priceOutOfTime_5 : decode bC_priceOutOfTime 5 = .ok (.iaload, 1) := by decide +kernel
theorem dC_priceOutOfTime_6 : decode bC_priceOutOfTime 6 = .ok (.iconst (-1), 1) := by decide +kernel
theorem dC_priceOutOfTime_7 : decode bC_priceOutOfTime 7 = .ok (.if_icmp .ne 12, 3) := by decide +kernel
theorem dC_priceOutOfTime_10 : decode bC_priceOutOfTime 10 = .ok (.aload_n 3, 1) := by decide +kernel
theorem dC_priceOutOfTime_11 : decode bC_priceOutOfTime 11 = .ok (.iload_n 1, 1) := by decide +kernel
theorem dC_priceOutOfTime_12 : decode bC_priceOutOfTime 12 = .ok (.iload_n 2, 1) := by decide +kernel
theorem dC_priceOutOfTime_13 : decode bC_priceOutOfTime 13 = .ok (.invokevirtual 63, 3) := by decide +kernel
theorem dC_priceOutOfTime_16 : decode bC_priceOutOfTime 16 = .ok (.goto 19, 3) := by decide +kernel
theorem dC_priceOutOfTime_19 : decode bC_priceOutOfTime 19 = .ok (.aload_n 3, 1) := by decide +kernel
theorem dC_priceOutOfTime_20 : decode bC_priceOutOfTime 20 = .ok (.aload_n 0, 1) := by decide +kernel
theorem dC_priceOutOfTime_21 : decode bC_priceOutOfTime 21 = .ok (.getfield 16, 3) := by decide +kernel
theorem dC_priceOutOfTime_24 : decode bC_priceOutOfTime 24 = .ok (.iconst 1, 1) := by decide +kernel
theorem dC_priceOutOfTime_25 : decode bC_priceOutOfTime 25 = .ok (.iaload, 1) := by decide +kernel
theorem dC_priceOutOfTime_26 : decode bC_priceOutOfTime 26 = .ok (.aload_n 0, 1) := by decide +kernel
theorem dC_priceOutOfTime_27 : decode bC_priceOutOfTime 27 = .ok (.getfield 16, 3) := by decide +kernel
theorem dC_priceOutOfTime_30 : decode bC_priceOutOfTime 30 = .ok (.iconst 2, 1) := by decide +kernel
theorem dC_priceOutOfTime_31 : decode bC_priceOutOfTime 31 = .ok (.iaload, 1) := by decide +kernel
theorem dC_priceOutOfTime_32 : decode bC_priceOutOfTime 32 = .ok (.invokevirtual 63, 3) := by decide +kernel
theorem dC_priceOutOfTime_35 : decode bC_priceOutOfTime 35 = .ok (.ireturn, 1) := by decide +kernel
theorem dT_fullPrice_0 : decode bT_fullPrice 0 = .ok (.iload_n 1, 1) := by decide +kernel
theorem dT_fullPrice_1 : decode bT_fullPrice 1 = .ok (.bipush 6, 2) := by decide +kernel
theorem dT_fullPrice_3 : decode bT_fullPrice 3 = .ok (.invokestatic 28, 3) := by decide +kernel
theorem dT_fullPrice_6 : decode bT_fullPrice 6 = .ok (.ifCond .ne 5, 3) := by decide +kernel
theorem dT_fullPrice_9 : decode bT_fullPrice 9 = .ok (.iconst 0, 1) := by decide +kernel
theorem dT_fullPrice_10 : decode bT_fullPrice 10 = .ok (.ireturn, 1) := by decide +kernel
theorem dT_fullPrice_11 : decode bT_fullPrice 11 = .ok (.iconst 0, 1) := by decide +kernel
theorem dT_fullPrice_12 : decode bT_fullPrice 12 = .ok (.istore_n 3, 1) := by decide +kernel
theorem dT_fullPrice_13 : decode bT_fullPrice 13 = .ok (.iconst 0, 1) := by decide +kernel
theorem dT_fullPrice_14 : decode bT_fullPrice 14 = .ok (.istore 4, 2) := by decide +kernel
theorem dT_fullPrice_16 : decode bT_fullPrice 16 = .ok (.iload 4, 2) := by decide +kernel
theorem dT_fullPrice_18 : decode bT_fullPrice 18 = .ok (.bipush 6, 2) := by decide +kernel
theorem dT_fullPrice_20 : decode bT_fullPrice 20 = .ok (.if_icmp .ge 23, 3) := by decide +kernel
theorem dT_fullPrice_23 : decode bT_fullPrice 23 = .ok (.iload_n 3, 1) := by decide +kernel
theorem dT_fullPrice_24 : decode bT_fullPrice 24 = .ok (.aload_n 0, 1) := by decide +kernel
theorem dT_fullPrice_25 : decode bT_fullPrice 25 = .ok (.getfield 11, 3) := by decide +kernel
theorem dT_fullPrice_28 : decode bT_fullPrice 28 = .ok (.iload_n 1, 1) := by decide +kernel
theorem dT_fullPrice_29 : decode bT_fullPrice 29 = .ok (.aaload, 1) := by decide +kernel
theorem dT_fullPrice_30 : decode bT_fullPrice 30 = .ok (.iload 4, 2) := by decide +kernel
theorem dT_fullPrice_32 : decode bT_fullPrice 32 = .ok (.iaload, 1) := by decide +kernel
theorem dT_fullPrice_33 : decode bT_fullPrice 33 = .ok (.invokestatic 36, 3) := by decide +kernel
theorem dT_fullPrice_36 : decode bT_fullPrice 36 = .ok (.istore_n 3, 1) := by decide +kernel
theorem dT_fullPrice_37 : decode bT_fullPrice 37 = .ok (.iinc 4 1, 3) := by decide +kernel
theorem dT_fullPrice_40 : decode bT_fullPrice 40 = .ok (.goto (-24), 3) := by decide +kernel
theorem dT_fullPrice_43 : decode bT_fullPrice 43 = .ok (.aload_n 0, 1) := by decide +kernel
theorem dT_fullPrice_44 : decode bT_fullPrice 44 = .ok (.iload_n 3, 1) := by decide +kernel
theorem dT_fullPrice_45 : decode bT_fullPrice 45 = .ok (.iload_n 2, 1) := by decide +kernel
theorem dT_fullPrice_46 : decode bT_fullPrice 46 = .ok (.invokevirtual 32, 3) := by decide +kernel
theorem dT_fullPrice_49 : decode bT_fullPrice 49 = .ok (.ireturn, 1) := by decide +kernel
theorem dT_capped_0 : decode bT_capped 0 = .ok (.iconst 0, 1) := by decide +kernel
theorem dT_capped_1 : decode bT_capped 1 = .ok (.iload_n 1, 1) := by decide +kernel
theorem dT_capped_2 : decode bT_capped 2 = .ok (.aload_n 0, 1) := by decide +kernel
theorem dT_capped_3 : decode bT_capped 3 = .ok (.getfield 25, 3) := by decide +kernel
theorem dT_capped_6 : decode bT_capped 6 = .ok (.iconst 3, 1) := by decide +kernel
theorem dT_capped_7 : decode bT_capped 7 = .ok (.iaload, 1) := by decide +kernel
theorem dT_capped_8 : decode bT_capped 8 = .ok (.iload_n 2, 1) := by decide +kernel
theorem dT_capped_9 : decode bT_capped 9 = .ok (.isub, 1) := by decide +kernel
theorem dT_capped_10 : decode bT_capped 10 = .ok (.invokestatic 41, 3) := by decide +kernel
theorem dT_capped_13 : decode bT_capped 13 = .ok (.invokestatic 36, 3) := by decide +kernel
theorem dT_capped_16 : decode bT_capped 16 = .ok (.ireturn, 1) := by decide +kernel
theorem dC_draftEntry_0 : decode bC_draftEntry 0 = .ok (.aload_n 0, 1) := by decide +kernel
theorem dC_draftEntry_1 : decode bC_draftEntry 1 = .ok (.getfield 16, 3) := by decide +kernel
theorem dC_draftEntry_4 : decode bC_draftEntry 4 = .ok (.iconst 1, 1) := by decide +kernel
theorem dC_draftEntry_5 : decode bC_draftEntry 5 = .ok (.iaload, 1) := by decide +kernel
theorem dC_draftEntry_6 : decode bC_draftEntry 6 = .ok (.iconst (-1), 1) := by decide +kernel
theorem dC_draftEntry_7 : decode bC_draftEntry 7 = .ok (.if_icmp .eq 7, 3) := by decide +kernel
theorem dC_draftEntry_10 : decode bC_draftEntry 10 = .ok (.iconst 1, 1) := by decide +kernel
theorem dC_draftEntry_11 : decode bC_draftEntry 11 = .ok (.goto 4, 3) := by decide +kernel
theorem dC_draftEntry_14 : decode bC_draftEntry 14 = .ok (.iconst 0, 1) := by decide +kernel
theorem dC_draftEntry_15 : decode bC_draftEntry 15 = .ok (.istore 4, 2) := by decide +kernel
theorem dC_draftEntry_17 : decode bC_draftEntry 17 = .ok (.iload 4, 2) := by decide +kernel
theorem dC_draftEntry_19 : decode bC_draftEntry 19 = .ok (.ifCond .eq 33, 3) := by decide +kernel
theorem dC_draftEntry_22 : decode bC_draftEntry 22 = .ok (.aload_n 3, 1) := by decide +kernel
theorem dC_draftEntry_23 : decode bC_draftEntry 23 = .ok (.aload_n 3, 1) := by decide +kernel
theorem dC_draftEntry_24 : decode bC_draftEntry 24 = .ok (.aload_n 0, 1) := by decide +kernel
theorem dC_draftEntry_25 : decode bC_draftEntry 25 = .ok (.getfield 16, 3) := by decide +kernel
theorem dC_draftEntry_28 : decode bC_draftEntry 28 = .ok (.iconst 1, 1) := by decide +kernel
theorem dC_draftEntry_29 : decode bC_draftEntry 29 = .ok (.iaload, 1) := by decide +kernel
theorem dC_draftEntry_30 : decode bC_draftEntry 30 = .ok (.aload_n 0, 1) := by decide +kernel
theorem dC_draftEntry_31 : decode bC_draftEntry 31 = .ok (.getfield 16, 3) := by decide +kernel
theorem dC_draftEntry_34 : decode bC_draftEntry 34 = .ok (.iconst 2, 1) := by decide +kernel
theorem dC_draftEntry_35 : decode bC_draftEntry 35 = .ok (.iaload, 1) := by decide +kernel
theorem dC_draftEntry_36 : decode bC_draftEntry 36 = .ok (.invokevirtual 63, 3) := by decide +kernel
theorem dC_draftEntry_39 : decode bC_draftEntry 39 = .ok (.aload_n 0, 1) := by decide +kernel
theorem dC_draftEntry_40 : decode bC_draftEntry 40 = .ok (.getfield 16, 3) := by decide +kernel
theorem dC_draftEntry_43 : decode bC_draftEntry 43 = .ok (.bipush 6, 2) := by decide +kernel
theorem dC_draftEntry_45 : decode bC_draftEntry 45 = .ok (.iaload, 1) := by decide +kernel
theorem dC_draftEntry_46 : decode bC_draftEntry 46 = .ok (.invokevirtual 69, 3) := by decide +kernel
theorem dC_draftEntry_49 : decode bC_draftEntry 49 = .ok (.goto 4, 3) := by decide +kernel
theorem dC_draftEntry_52 : decode bC_draftEntry 52 = .ok (.iconst 0, 1) := by decide +kernel
theorem dC_draftEntry_53 : decode bC_draftEntry 53 = .ok (.istore 5, 2) := by decide +kernel
theorem dC_draftEntry_55 : decode bC_draftEntry 55 = .ok (.iload 4, 2) := by decide +kernel
theorem dC_draftEntry_57 : decode bC_draftEntry 57 = .ok (.ifCond .ne 16, 3) := by decide +kernel
theorem dC_draftEntry_60 : decode bC_draftEntry 60 = .ok (.iload_n 2, 1) := by decide +kernel
theorem dC_draftEntry_61 : decode bC_draftEntry 61 = .ok (.aload_n 0, 1) := by decide +kernel
theorem dC_draftEntry_62 : decode bC_draftEntry 62 = .ok (.getfield 16, 3) := by decide +kernel
theorem dC_draftEntry_65 : decode bC_draftEntry 65 = .ok (.iconst 5, 1) := by decide +kernel
theorem dC_draftEntry_66 : decode bC_draftEntry 66 = .ok (.iaload, 1) := by decide +kernel
theorem dC_draftEntry_67 : decode bC_draftEntry 67 = .ok (.bipush 30, 2) := by decide +kernel
theorem dC_draftEntry_69 : decode bC_draftEntry 69 = .ok (.iadd, 1) := by decide +kernel
theorem dC_draftEntry_70 : decode bC_draftEntry 70 = .ok (.if_icmp .le 17, 3) := by decide +kernel
theorem dC_draftEntry_73 : decode bC_draftEntry 73 = .ok (.aload_n 0, 1) := by decide +kernel
theorem dC_draftEntry_74 : decode bC_draftEntry 74 = .ok (.getfield 16, 3) := by decide +kernel
theorem dC_draftEntry_77 : decode bC_draftEntry 77 = .ok (.iconst 3, 1) := by decide +kernel
theorem dC_draftEntry_78 : decode bC_draftEntry 78 = .ok (.iload_n 1, 1) := by decide +kernel
theorem dC_draftEntry_79 : decode bC_draftEntry 79 = .ok (.iastore, 1) := by decide +kernel
theorem dC_draftEntry_80 : decode bC_draftEntry 80 = .ok (.aload_n 0, 1) := by decide +kernel
theorem dC_draftEntry_81 : decode bC_draftEntry 81 = .ok (.getfield 16, 3) := by decide +kernel
theorem dC_draftEntry_84 : decode bC_draftEntry 84 = .ok (.iconst 4, 1) := by decide +kernel
theorem dC_draftEntry_85 : decode bC_draftEntry 85 = .ok (.iconst 0, 1) := by decide +kernel
theorem dC_draftEntry_86 : decode bC_draftEntry 86 = .ok (.iastore, 1) := by decide +kernel
theorem dC_draftEntry_87 : decode bC_draftEntry 87 = .ok (.aload_n 0, 1) := by decide +kernel
theorem dC_draftEntry_88 : decode bC_draftEntry 88 = .ok (.getfield 16, 3) := by decide +kernel
theorem dC_draftEntry_91 : decode bC_draftEntry 91 = .ok (.iconst 1, 1) := by decide +kernel
theorem dC_draftEntry_92 : decode bC_draftEntry 92 = .ok (.iload_n 1, 1) := by decide +kernel
theorem dC_draftEntry_93 : decode bC_draftEntry 93 = .ok (.iastore, 1) := by decide +kernel
theorem dC_draftEntry_94 : decode bC_draftEntry 94 = .ok (.aload_n 0, 1) := by decide +kernel
theorem dC_draftEntry_95 : decode bC_draftEntry 95 = .ok (.getfield 16, 3) := by decide +kernel
theorem dC_draftEntry_98 : decode bC_draftEntry 98 = .ok (.iconst 2, 1) := by decide +kernel
theorem dC_draftEntry_99 : decode bC_draftEntry 99 = .ok (.iload_n 2, 1) := by decide +kernel
theorem dC_draftEntry_100 : decode bC_draftEntry 100 = .ok (.iastore, 1) := by decide +kernel
theorem dC_draftEntry_101 : decode bC_draftEntry 101 = .ok (.iload 5, 2) := by decide +kernel
theorem dC_draftEntry_103 : decode bC_draftEntry 103 = .ok (.ireturn, 1) := by decide +kernel
theorem dC_writeDraft_0 : decode bC_writeDraft 0 = .ok (.aload_n 0, 1) := by decide +kernel
theorem dC_writeDraft_1 : decode bC_writeDraft 1 = .ok (.getfield 11, 3) := by decide +kernel
theorem dC_writeDraft_4 : decode bC_writeDraft 4 = .ok (.iconst 1, 1) := by decide +kernel
theorem dC_writeDraft_5 : decode bC_writeDraft 5 = .ok (.aload_n 0, 1) := by decide +kernel
theorem dC_writeDraft_6 : decode bC_writeDraft 6 = .ok (.invokevirtual 29, 3) := by decide +kernel
theorem dC_writeDraft_9 : decode bC_writeDraft 9 = .ok (.isub, 1) := by decide +kernel
theorem dC_writeDraft_10 : decode bC_writeDraft 10 = .ok (.aaload, 1) := by decide +kernel
theorem dC_writeDraft_11 : decode bC_writeDraft 11 = .ok (.astore_n 2, 1) := by decide +kernel
theorem dC_writeDraft_12 : decode bC_writeDraft 12 = .ok (.iconst 0, 1) := by decide +kernel
theorem dC_writeDraft_13 : decode bC_writeDraft 13 = .ok (.istore_n 3, 1) := by decide +kernel
theorem dC_writeDraft_14 : decode bC_writeDraft 14 = .ok (.iload_n 3, 1) := by decide +kernel
theorem dC_writeDraft_15 : decode bC_writeDraft 15 = .ok (.iload_n 1, 1) := by decide +kernel
theorem dC_writeDraft_16 : decode bC_writeDraft 16 = .ok (.if_icmp .ge 24, 3) := by decide +kernel
theorem dC_writeDraft_19 : decode bC_writeDraft 19 = .ok (.iload_n 3, 1) := by decide +kernel
theorem dC_writeDraft_20 : decode bC_writeDraft 20 = .ok (.bipush 8, 2) := by decide +kernel
theorem dC_writeDraft_22 : decode bC_writeDraft 22 = .ok (.if_icmp .ge 18, 3) := by decide +kernel
theorem dC_writeDraft_25 : decode bC_writeDraft 25 = .ok (.aload_n 2, 1) := by decide +kernel
theorem dC_writeDraft_26 : decode bC_writeDraft 26 = .ok (.iload_n 3, 1) := by decide +kernel
theorem dC_writeDraft_27 : decode bC_writeDraft 27 = .ok (.aload_n 0, 1) := by decide +kernel
theorem dC_writeDraft_28 : decode bC_writeDraft 28 = .ok (.getfield 16, 3) := by decide +kernel
theorem dC_writeDraft_31 : decode bC_writeDraft 31 = .ok (.iload_n 3, 1) := by decide +kernel
theorem dC_writeDraft_32 : decode bC_writeDraft 32 = .ok (.iaload, 1) := by decide +kernel
theorem dC_writeDraft_33 : decode bC_writeDraft 33 = .ok (.iastore, 1) := by decide +kernel
theorem dC_writeDraft_34 : decode bC_writeDraft 34 = .ok (.iinc 3 1, 3) := by decide +kernel
theorem dC_writeDraft_37 : decode bC_writeDraft 37 = .ok (.goto (-23), 3) := by decide +kernel
theorem dC_writeDraft_40 : decode bC_writeDraft 40 = .ok (.return_, 1) := by decide +kernel
theorem dV_keepEntry_0 : decode bV_keepEntry 0 = .ok (.aload_n 0, 1) := by decide +kernel
theorem dV_keepEntry_1 : decode bV_keepEntry 1 = .ok (.invokevirtual 30, 3) := by decide +kernel
theorem dV_keepEntry_4 : decode bV_keepEntry 4 = .ok (.ifCond .eq 4, 3) := by decide +kernel
theorem dV_keepEntry_7 : decode bV_keepEntry 7 = .ok (.return_, 1) := by decide +kernel
theorem dV_keepEntry_8 : decode bV_keepEntry 8 = .ok (.aload_n 0, 1) := by decide +kernel
theorem dV_keepEntry_9 : decode bV_keepEntry 9 = .ok (.getfield 11, 3) := by decide +kernel
theorem dV_keepEntry_12 : decode bV_keepEntry 12 = .ok (.aload_n 0, 1) := by decide +kernel
theorem dV_keepEntry_13 : decode bV_keepEntry 13 = .ok (.getfield 27, 3) := by decide +kernel
theorem dV_keepEntry_16 : decode bV_keepEntry 16 = .ok (.aaload, 1) := by decide +kernel
theorem dV_keepEntry_17 : decode bV_keepEntry 17 = .ok (.astore 5, 2) := by decide +kernel
theorem dV_keepEntry_19 : decode bV_keepEntry 19 = .ok (.aload 5, 2) := by decide +kernel
theorem dV_keepEntry_21 : decode bV_keepEntry 21 = .ok (.iconst 0, 1) := by decide +kernel
theorem dV_keepEntry_22 : decode bV_keepEntry 22 = .ok (.iload_n 1, 1) := by decide +kernel
theorem dV_keepEntry_23 : decode bV_keepEntry 23 = .ok (.iastore, 1) := by decide +kernel
theorem dV_keepEntry_24 : decode bV_keepEntry 24 = .ok (.aload 5, 2) := by decide +kernel
theorem dV_keepEntry_26 : decode bV_keepEntry 26 = .ok (.iconst 1, 1) := by decide +kernel
theorem dV_keepEntry_27 : decode bV_keepEntry 27 = .ok (.iload_n 2, 1) := by decide +kernel
theorem dV_keepEntry_28 : decode bV_keepEntry 28 = .ok (.iastore, 1) := by decide +kernel
theorem dV_keepEntry_29 : decode bV_keepEntry 29 = .ok (.aload 5, 2) := by decide +kernel
theorem dV_keepEntry_31 : decode bV_keepEntry 31 = .ok (.iconst 2, 1) := by decide +kernel
theorem dV_keepEntry_32 : decode bV_keepEntry 32 = .ok (.iload_n 3, 1) := by decide +kernel
theorem dV_keepEntry_33 : decode bV_keepEntry 33 = .ok (.iastore, 1) := by decide +kernel
theorem dV_keepEntry_34 : decode bV_keepEntry 34 = .ok (.aload 5, 2) := by decide +kernel
theorem dV_keepEntry_36 : decode bV_keepEntry 36 = .ok (.iconst 3, 1) := by decide +kernel
theorem dV_keepEntry_37 : decode bV_keepEntry 37 = .ok (.iload 4, 2) := by decide +kernel
theorem dV_keepEntry_39 : decode bV_keepEntry 39 = .ok (.iastore, 1) := by decide +kernel
theorem dV_keepEntry_40 : decode bV_keepEntry 40 = .ok (.aload_n 0, 1) := by decide +kernel
theorem dV_keepEntry_41 : decode bV_keepEntry 41 = .ok (.dup, 1) := by decide +kernel
theorem dV_keepEntry_42 : decode bV_keepEntry 42 = .ok (.getfield 27, 3) := by decide +kernel
theorem dV_keepEntry_45 : decode bV_keepEntry 45 = .ok (.iconst 1, 1) := by decide +kernel
theorem dV_keepEntry_46 : decode bV_keepEntry 46 = .ok (.iadd, 1) := by decide +kernel
theorem dV_keepEntry_47 : decode bV_keepEntry 47 = .ok (.putfield 27, 3) := by decide +kernel
theorem dV_keepEntry_50 : decode bV_keepEntry 50 = .ok (.return_, 1) := by decide +kernel
