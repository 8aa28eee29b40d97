theorem dA_lostMoney_0 : decode bA_lostMoney 0 = .ok (.iconst 0, 1) := by decide +kernel
theorem dA_lostMoney_1 : decode bA_lostMoney 1 = .ok (.istore_n 1, 1) := by decide +kernel
theorem dA_lostMoney_2 : decode bA_lostMoney 2 = .ok (.iconst 0, 1) := by decide +kernel
theorem dA_lostMoney_3 : decode bA_lostMoney 3 = .ok (.istore_n 2, 1) := by decide +kernel
theorem dA_lostMoney_4 : decode bA_lostMoney 4 = .ok (.iconst 0, 1) := by decide +kernel
theorem dA_lostMoney_5 : decode bA_lostMoney 5 = .ok (.istore_n 3, 1) := by decide +kernel
theorem dA_lostMoney_6 : decode bA_lostMoney 6 = .ok (.iconst 1, 1) := by decide +kernel
theorem dA_lostMoney_7 : decode bA_lostMoney 7 = .ok (.istore 4, 2) := by decide +kernel
theorem dA_lostMoney_9 : decode bA_lostMoney 9 = .ok (.iload 4, 2) := by decide +kernel
theorem dA_lostMoney_11 : decode bA_lostMoney 11 = .ok (.sipush 512, 3) := by decide +kernel
theorem dA_lostMoney_14 : decode bA_lostMoney 14 = .ok (.if_icmp .gt 50, 3) := by decide +kernel
theorem dA_lostMoney_17 : decode bA_lostMoney 17 = .ok (.aload_n 0, 1) := by decide +kernel
theorem dA_lostMoney_18 : decode bA_lostMoney 18 = .ok (.getfield 9, 3) := by decide +kernel
theorem dA_lostMoney_21 : decode bA_lostMoney 21 = .ok (.iload 4, 2) := by decide +kernel
theorem dA_lostMoney_23 : decode bA_lostMoney 23 = .ok (.baload, 1) := by decide +kernel
theorem dA_lostMoney_24 : decode bA_lostMoney 24 = .ok (.ifCond .eq 34, 3) := by decide +kernel
theorem dA_lostMoney_27 : decode bA_lostMoney 27 = .ok (.iload 4, 2) := by decide +kernel
theorem dA_lostMoney_29 : decode bA_lostMoney 29 = .ok (.iload_n 2, 1) := by decide +kernel
theorem dA_lostMoney_30 : decode bA_lostMoney 30 = .ok (.iconst 1, 1) := by decide +kernel
theorem dA_lostMoney_31 : decode bA_lostMoney 31 = .ok (.iadd, 1) := by decide +kernel
theorem dA_lostMoney_32 : decode bA_lostMoney 32 = .ok (.if_icmp .eq 15, 3) := by decide +kernel
theorem dA_lostMoney_35 : decode bA_lostMoney 35 = .ok (.iload_n 1, 1) := by decide +kernel
theorem dA_lostMoney_36 : decode bA_lostMoney 36 = .ok (.iload_n 3, 1) := by decide +kernel
theorem dA_lostMoney_37 : decode bA_lostMoney 37 = .ok (.aload_n 0, 1) := by decide +kernel
theorem dA_lostMoney_38 : decode bA_lostMoney 38 = .ok (.getfield 15, 3) := by decide +kernel
theorem dA_lostMoney_41 : decode bA_lostMoney 41 = .ok (.iload 4, 2) := by decide +kernel
theorem dA_lostMoney_43 : decode bA_lostMoney 43 = .ok (.iaload, 1) := by decide +kernel
theorem dA_lostMoney_44 : decode bA_lostMoney 44 = .ok (.isub, 1) := by decide +kernel
theorem dA_lostMoney_45 : decode bA_lostMoney 45 = .ok (.iadd, 1) := by decide +kernel
theorem dA_lostMoney_46 : decode bA_lostMoney 46 = .ok (.istore_n 1, 1) := by decide +kernel
theorem dA_lostMoney_47 : decode bA_lostMoney 47 = .ok (.iload 4, 2) := by decide +kernel
theorem dA_lostMoney_49 : decode bA_lostMoney 49 = .ok (.istore_n 2, 1) := by decide +kernel
theorem dA_lostMoney_50 : decode bA_lostMoney 50 = .ok (.aload_n 0, 1) := by decide +kernel
theorem dA_lostMoney_51 : decode bA_lostMoney 51 = .ok (.getfield 19, 3) := by decide +kernel
theorem dA_lostMoney_54 : decode bA_lostMoney 54 = .ok (.iload 4, 2) := by decide +kernel
theorem dA_lostMoney_56 : decode bA_lostMoney 56 = .ok (.iaload, 1) := by decide +kernel
theorem dA_lostMoney_57 : decode bA_lostMoney 57 = .ok (.istore_n 3, 1) := by decide +kernel
theorem dA_lostMoney_58 : decode bA_lostMoney 58 = .ok (.iinc 4 1, 3) := by decide +kernel
theorem dA_lostMoney_61 : decode bA_lostMoney 61 = .ok (.goto (-52), 3) := by decide +kernel
theorem dA_lostMoney_64 : decode bA_lostMoney 64 = .ok (.iload_n 1, 1) := by decide +kernel
theorem dA_lostMoney_65 : decode bA_lostMoney 65 = .ok (.ireturn, 1) := by decide +kernel
theorem dA_allCharges_0 : decode bA_allCharges 0 = .ok (.aload_n 0, 1) := by decide +kernel
theorem dA_allCharges_1 : decode bA_allCharges 1 = .ok (.getfield 29, 3) := by decide +kernel
theorem dA_allCharges_4 : decode bA_allCharges 4 = .ok (.ireturn, 1) := by decide +kernel
theorem dA_allTopUps_0 : decode bA_allTopUps 0 = .ok (.aload_n 0, 1) := by decide +kernel
theorem dA_allTopUps_1 : decode bA_allTopUps 1 = .ok (.getfield 32, 3) := by decide +kernel
theorem dA_allTopUps_4 : decode bA_allTopUps 4 = .ok (.ireturn, 1) := by decide +kernel
theorem dO_income_0 : decode bO_income 0 = .ok (.iload_n 1, 1) := by decide +kernel
theorem dO_income_1 : decode bO_income 1 = .ok (.iconst 4, 1) := by decide +kernel
theorem dO_income_2 : decode bO_income 2 = .ok (.invokestatic 43, 3) := by decide +kernel
theorem dO_income_5 : decode bO_income 5 = .ok (.ifCond .eq 12, 3) := by decide +kernel
theorem dO_income_8 : decode bO_income 8 = .ok (.aload_n 0, 1) := by decide +kernel
theorem dO_income_9 : decode bO_income 9 = .ok (.getfield 34, 3) := by decide +kernel
theorem dO_income_12 : decode bO_income 12 = .ok (.iload_n 1, 1) := by decide +kernel
theorem dO_income_13 : decode bO_income 13 = .ok (.iaload, 1) := by decide +kernel
theorem dO_income_14 : decode bO_income 14 = .ok (.goto 4, 3) := by decide +kernel
theorem dO_income_17 : decode bO_income 17 = .ok (.iconst (-1), 1) := by decide +kernel
theorem dO_income_18 : decode bO_income 18 = .ok (.ireturn, 1) := by decide +kernel
theorem dO_count_0 : decode bO_count 0 = .ok (.iload_n 1, 1) := by decide +kernel
theorem dO_count_1 : decode bO_count 1 = .ok (.tableswitch 54 0 3 #[31, 36, 41, 46], 31) := by decide +kernel
theorem dO_count_32 : decode bO_count 32 = .ok (.aload_n 0, 1) := by decide +kernel
theorem dO_count_33 : decode bO_count 33 = .ok (.getfield 62, 3) := by decide +kernel
theorem dO_count_36 : decode bO_count 36 = .ok (.ireturn, 1) := by decide +kernel
theorem dO_count_37 : decode bO_count 37 = .ok (.aload_n 0, 1) := by decide +kernel
theorem dO_count_38 : decode bO_count 38 = .ok (.invokevirtual 151, 3) := by decide +kernel
theorem dO_count_41 : decode bO_count 41 = .ok (.ireturn, 1) := by decide +kernel
theorem dO_count_42 : decode bO_count 42 = .ok (.aload_n 0, 1) := by decide +kernel
theorem dO_count_43 : decode bO_count 43 = .ok (.getfield 92, 3) := by decide +kernel
theorem dO_count_46 : decode bO_count 46 = .ok (.ireturn, 1) := by decide +kernel
theorem dO_count_47 : decode bO_count 47 = .ok (.aload_n 0, 1) := by decide +kernel
theorem dO_count_48 : decode bO_count 48 = .ok (.getfield 117, 3) := by decide +kernel
theorem dO_count_51 : decode bO_count 51 = .ok (.invokestatic 154, 3) := by decide +kernel
theorem dO_count_54 : decode bO_count 54 = .ok (.ireturn, 1) := by decide +kernel
theorem dO_count_55 : decode bO_count 55 = .ok (.iconst (-1), 1) := by decide +kernel
theorem dO_count_56 : decode bO_count 56 = .ok (.ireturn, 1) := by decide +kernel
theorem dO_entriesInLogs_0 : decode bO_entriesInLogs 0 = .ok (.iconst 0, 1) := by decide +kernel
theorem dO_entriesInLogs_1 : decode bO_entriesInLogs 1 = .ok (.istore_n 1, 1) := by decide +kernel
theorem dO_entriesInLogs_2 : decode bO_entriesInLogs 2 = .ok (.iconst 0, 1) := by decide +kernel
theorem dO_entriesInLogs_3 : decode bO_entriesInLogs 3 = .ok (.istore_n 2, 1) := by decide +kernel
theorem dO_entriesInLogs_4 : decode bO_entriesInLogs 4 = .ok (.iload_n 2, 1) := by decide +kernel
theorem dO_entriesInLogs_5 : decode bO_entriesInLogs 5 = .ok (.iconst 4, 1) := by decide +kernel
theorem dO_entriesInLogs_6 : decode bO_entriesInLogs 6 = .ok (.if_icmp .ge 21, 3) := by decide +kernel
theorem dO_entriesInLogs_9 : decode bO_entriesInLogs 9 = .ok (.iload_n 1, 1) := by decide +kernel
theorem dO_entriesInLogs_10 : decode bO_entriesInLogs 10 = .ok (.aload_n 0, 1) := by decide +kernel
theorem dO_entriesInLogs_11 : decode bO_entriesInLogs 11 = .ok (.getfield 30, 3) := by decide +kernel
theorem dO_entriesInLogs_14 : decode bO_entriesInLogs 14 = .ok (.iload_n 2, 1) := by decide +kernel
theorem dO_entriesInLogs_15 : decode bO_entriesInLogs 15 = .ok (.aaload, 1) := by decide +kernel
theorem dO_entriesInLogs_16 : decode bO_entriesInLogs 16 = .ok (.invokevirtual 108, 3) := by decide +kernel
theorem dO_entriesInLogs_19 : decode bO_entriesInLogs 19 = .ok (.iadd, 1) := by decide +kernel
theorem dO_entriesInLogs_20 : decode bO_entriesInLogs 20 = .ok (.istore_n 1, 1) := by decide +kernel
theorem dO_entriesInLogs_21 : decode bO_entriesInLogs 21 = .ok (.iinc 2 1, 3) := by decide +kernel
theorem dO_entriesInLogs_24 : decode bO_entriesInLogs 24 = .ok (.goto (-20), 3) := by decide +kernel
theorem dO_entriesInLogs_27 : decode bO_entriesInLogs 27 = .ok (.iload_n 1, 1) := by decide +kernel
theorem dO_entriesInLogs_28 : decode bO_entriesInLogs 28 = .ok (.ireturn, 1) := by decide +kernel
theorem dI_bitCount_0 : decode bI_bitCount 0 = .ok (.iload_n 0, 1) := by decide +kernel
theorem dI_bitCount_1 : decode bI_bitCount 1 = .ok (.iload_n 0, 1) := by decide +kernel
theorem dI_bitCount_2 : decode bI_bitCount 2 = .ok (.iconst 1, 1) := by decide +kernel
theorem dI_bitCount_3 : decode bI_bitCount 3 = .ok (.iushr, 1) := by decide +kernel
theorem dI_bitCount_4 : decode bI_bitCount 4 = .ok (.ldc_w 265, 3) := by decide +kernel
theorem dI_bitCount_7 : decode bI_bitCount 7 = .ok (.iand, 1) := by decide +kernel
theorem dI_bitCount_8 : decode bI_bitCount 8 = .ok (.isub, 1) := by decide +kernel
theorem dI_bitCount_9 : decode bI_bitCount 9 = .ok (.istore_n 0, 1) := by decide +kernel
theorem dI_bitCount_10 : decode bI_bitCount 10 = .ok (.iload_n 0, 1) := by decide +kernel
theorem dI_bitCount_11 : decode bI_bitCount 11 = .ok (.ldc_w 266, 3) := by decide +kernel
theorem dI_bitCount_14 : decode bI_bitCount 14 = .ok (.iand, 1) := by decide +kernel
theorem dI_bitCount_15 : decode bI_bitCount 15 = .ok (.iload_n 0, 1) := by decide +kernel
theorem dI_bitCount_16 : decode bI_bitCount 16 = .ok (.iconst 2, 1) := by decide +kernel
theorem dI_bitCount_17 : decode bI_bitCount 17 = .ok (.iushr, 1) := by decide +kernel
theorem dI_bitCount_18 : decode bI_bitCount 18 = .ok (.ldc_w 266, 3) := by decide +kernel
theorem dI_bitCount_21 : decode bI_bitCount 21 = .ok (.iand, 1) := by decide +kernel
theorem dI_bitCount_22 : decode bI_bitCount 22 = .ok (.iadd, 1) := by decide +kernel
theorem dI_bitCount_23 : decode bI_bitCount 23 = .ok (.istore_n 0, 1) := by decide +kernel
theorem dI_bitCount_24 : decode bI_bitCount 24 = .ok (.iload_n 0, 1) := by decide +kernel
theorem dI_bitCount_25 : decode bI_bitCount 25 = .ok (.iload_n 0, 1) := by decide +kernel
theorem dI_bitCount_26 : decode bI_bitCount 26 = .ok (.iconst 4, 1) := by decide +kernel
theorem dI_bitCount_27 : decode bI_bitCount 27 = .ok (.iushr, 1) := by decide +kernel
theorem dI_bitCount_28 : decode bI_bitCount 28 = .ok (.iadd, 1) := by decide +kernel
theorem dI_bitCount_29 : decode bI_bitCount 29 = .ok (.ldc_w 267, 3) := by decide +kernel
theorem dI_bitCount_32 : decode bI_bitCount 32 = .ok (.iand, 1) := by decide +kernel
theorem dI_bitCount_33 : decode bI_bitCount 33 = .ok (.istore_n 0, 1) := by decide +kernel
theorem dI_bitCount_34 : decode bI_bitCount 34 = .ok (.iload_n 0, 1) := by decide +kernel
theorem dI_bitCount_35 : decode bI_bitCount 35 = .ok (.iload_n 0, 1) := by decide +kernel
theorem dI_bitCount_36 : decode bI_bitCount 36 = .ok (.bipush 8, 2) := by decide +kernel
theorem dI_bitCount_38 : decode bI_bitCount 38 = .ok (.iushr, 1) := by decide +kernel
theorem dI_bitCount_39 : decode bI_bitCount 39 = .ok (.iadd, 1) := by decide +kernel
theorem dI_bitCount_40 : decode bI_bitCount 40 = .ok (.istore_n 0, 1) := by decide +kernel
theorem dI_bitCount_41 : decode bI_bitCount 41 = .ok (.iload_n 0, 1) := by decide +kernel
theorem dI_bitCount_42 : decode bI_bitCount 42 = .ok (.iload_n 0, 1) := by decide +kernel
theorem dI_bitCount_43 : decode bI_bitCount 43 = .ok (.bipush 16, 2) := by decide +kernel
theorem dI_bitCount_45 : decode bI_bitCount 45 = .ok (.iushr, 1) := by decide +kernel
theorem dI_bitCount_46 : decode bI_bitCount 46 = .ok (.iadd, 1) := by decide +kernel
theorem dI_bitCount_47 : decode bI_bitCount 47 = .ok (.istore_n 0, 1) := by decide +kernel
theorem dI_bitCount_48 : decode bI_bitCount 48 = .ok (.iload_n 0, 1) := by decide +kernel
theorem dI_bitCount_49 : decode bI_bitCount 49 = .ok (.bipush 63, 2) := by decide +kernel
theorem dI_bitCount_51 : decode bI_bitCount 51 = .ok (.iand, 1) := by decide +kernel
theorem dI_bitCount_52 : decode bI_bitCount 52 = .ok (.ireturn, 1) := by decide +kernel
theorem dM_init_0 : decode bM_init 0 = .ok (.aload_n 0, 1) := by decide +kernel
theorem dM_init_1 : decode bM_init 1 = .ok (.invokespecial 1, 3) := by decide +kernel
theorem dM_init_4 : decode bM_init 4 = .ok (.aload_n 0, 1) := by decide +kernel
theorem dM_init_5 : decode bM_init 5 = .ok (.bipush 36, 2) := by decide +kernel
theorem dM_init_7 : decode bM_init 7 = .ok (.newarray .int, 2) := by decide +kernel
theorem dM_init_9 : decode bM_init 9 = .ok (.putfield 7, 3) := by decide +kernel
theorem dM_init_12 : decode bM_init 12 = .ok (.aload_n 0, 1) := by decide +kernel
theorem dM_init_13 : decode bM_init 13 = .ok (.iconst 5, 1) := by decide +kernel
theorem dM_init_14 : decode bM_init 14 = .ok (.newarray .int, 2) := by decide +kernel
theorem dM_init_16 : decode bM_init 16 = .ok (.putfield 13, 3) := by decide +kernel
theorem dM_init_19 : decode bM_init 19 = .ok (.aload_n 0, 1) := by decide +kernel
theorem dM_init_20 : decode bM_init 20 = .ok (.bipush 64, 2) := by decide +kernel
theorem dM_init_22 : decode bM_init 22 = .ok (.newarray .int, 2) := by decide +kernel
theorem dM_init_24 : decode bM_init 24 = .ok (.putfield 16, 3) := by decide +kernel
theorem dM_init_27 : decode bM_init 27 = .ok (.aload_n 0, 1) := by decide +kernel
theorem dM_init_28 : decode bM_init 28 = .ok (.bipush 8, 2) := by decide +kernel
theorem dM_init_30 : decode bM_init 30 = .ok (.newarray .int, 2) := by decide +kernel
theorem dM_init_32 : decode bM_init 32 = .ok (.putfield 19, 3) := by decide +kernel
theorem dM_init_35 : decode bM_init 35 = .ok (.aload_n 0, 1) := by decide +kernel
theorem dM_init_36 : decode bM_init 36 = .ok (.iconst 4, 1) := by decide +kernel
theorem dM_init_37 : decode bM_init 37 = .ok (.newarray .int, 2) := by decide +kernel
theorem dM_init_39 : decode bM_init 39 = .ok (.putfield 22, 3) := by decide +kernel
theorem dM_init_42 : decode bM_init 42 = .ok (.aload_n 0, 1) := by decide +kernel
theorem dM_init_43 : decode bM_init 43 = .ok (.iconst 4, 1) := by decide +kernel
theorem dM_init_44 : decode bM_init 44 = .ok (.newarray .boolean, 2) := by decide +kernel
theorem dM_init_46 : decode bM_init 46 = .ok (.putfield 25, 3) := by decide +kernel
theorem dM_init_49 : decode bM_init 49 = .ok (.aload_n 0, 1) := by decide +kernel
theorem dM_init_50 : decode bM_init 50 = .ok (.sipush 128, 3) := by decide +kernel
theorem dM_init_53 : decode bM_init 53 = .ok (.newarray .int, 2) := by decide +kernel
theorem dM_init_55 : decode bM_init 55 = .ok (.putfield 29, 3) := by decide +kernel
theorem dM_init_58 : decode bM_init 58 = .ok (.aload_n 0, 1) := by decide +kernel
theorem dM_init_59 : decode bM_init 59 = .ok (.iconst 4, 1) := by decide +kernel
theorem dM_init_60 : decode bM_init 60 = .ok (.newarray .int, 2) := by decide +kernel
theorem dM_init_62 : decode bM_init 62 = .ok (.putfield 32, 3) := by decide +kernel
theorem dM_init_65 : decode bM_init 65 = .ok (.aload_n 0, 1) := by decide +kernel
theorem dM_init_66 : decode bM_init 66 = .ok (.bipush 16, 2) := by decide +kernel
theorem dM_init_68 : decode bM_init 68 = .ok (.newarray .boolean, 2) := by decide +kernel
theorem dM_init_70 : decode bM_init 70 = .ok (.putfield 35, 3) := by decide +kernel
theorem dM_init_73 : decode bM_init 73 = .ok (.aload_n 0, 1) := by decide +kernel
theorem dM_init_74 : decode bM_init 74 = .ok (.iconst 4, 1) := by decide +kernel
theorem dM_init_75 : decode bM_init 75 = .ok (.newarray .boolean, 2) := by decide +kernel
theorem dM_init_77 : decode bM_init 77 = .ok (.putfield 38, 3) := by decide +kernel
theorem dM_init_80 : decode bM_init 80 = .ok (.aload_n 0, 1) := by decide +kernel
theorem dM_init_81 : decode bM_init 81 = .ok (.iconst 4, 1) := by decide +kernel
theorem dM_init_82 : decode bM_init 82 = .ok (.newarray .int, 2) := by decide +kernel
theorem dM_init_84 : decode bM_init 84 = .ok (.putfield 41, 3) := by decide +kernel
theorem dM_init_87 : decode bM_init 87 = .ok (.aload_n 0, 1) := by decide +kernel
theorem dM_init_88 : decode bM_init 88 = .ok (.sipush 2080, 3) := by decide +kernel
theorem dM_init_91 : decode bM_init 91 = .ok (.newarray .int, 2) := by decide +kernel
theorem dM_init_93 : decode bM_init 93 = .ok (.putfield 44, 3) := by decide +kernel
theorem dM_init_96 : decode bM_init 96 = .ok (.aload_n 0, 1) := by decide +kernel
theorem dM_init_97 : decode bM_init 97 = .ok (.sipush 2080, 3) := by decide +kernel
theorem dM_init_100 : decode bM_init 100 = .ok (.newarray .int, 2) := by decide +kernel
theorem dM_init_102 : decode bM_init 102 = .ok (.putfield 47, 3) := by decide +kernel
theorem dM_init_105 : decode bM_init 105 = .ok (.aload_n 0, 1) := by decide +kernel
theorem dM_init_106 : decode bM_init 106 = .ok (.sipush 2080, 3) := by decide +kernel
theorem dM_init_109 : decode bM_init 109 = .ok (.newarray .int, 2) := by decide +kernel
theorem dM_init_111 : decode bM_init 111 = .ok (.putfield 50, 3) := by decide +kernel
theorem dM_init_114 : decode bM_init 114 = .ok (.aload_n 0, 1) := by decide +kernel
theorem dM_init_115 : decode bM_init 115 = .ok (.getfield 13, 3) := by decide +kernel
theorem dM_init_118 : decode bM_init 118 = .ok (.iconst 3, 1) := by decide +kernel
theorem dM_init_119 : decode bM_init 119 = .ok (.sipush 9999, 3) := by decide +kernel
theorem dM_init_122 : decode bM_init 122 = .ok (.iastore, 1) := by decide +kernel
theorem dM_init_123 : decode bM_init 123 = .ok (.iconst 0, 1) := by decide +kernel
theorem dM_init_124 : decode bM_init 124 = .ok (.istore_n 1, 1) := by decide +kernel
theorem dM_init_125 : decode bM_init 125 = .ok (.iload_n 1, 1) := by decide +kernel
theorem dM_init_126 : decode bM_init 126 = .ok (.iconst 4, 1) := by decide +kernel
theorem dM_init_127 : decode bM_init 127 = .ok (.if_icmp .ge 16, 3) := by decide +kernel
theorem dM_init_130 : decode bM_init 130 = .ok (.aload_n 0, 1) := by decide +kernel
theorem dM_init_131 : decode bM_init 131 = .ok (.getfield 22, 3) := by decide +kernel
theorem dM_init_134 : decode bM_init 134 = .ok (.iload_n 1, 1) := by decide +kernel
theorem dM_init_135 : decode bM_init 135 = .ok (.iload_n 1, 1) := by decide +kernel
theorem dM_init_136 : decode bM_init 136 = .ok (.iastore, 1) := by decide +kernel
theorem dM_init_137 : decode bM_init 137 = .ok (.iinc 1 1, 3) := by decide +kernel
theorem dM_init_140 : decode bM_init 140 = .ok (.goto (-15), 3) := by decide +kernel
theorem dM_init_143 : decode bM_init 143 = .ok (.iconst 0, 1) := by decide +kernel
theorem dM_init_144 : decode bM_init 144 = .ok (.istore_n 1, 1) := by decide +kernel
theorem dM_init_145 : decode bM_init 145 = .ok (.iload_n 1, 1) := by decide +kernel
theorem dM_init_146 : decode bM_init 146 = .ok (.bipush 8, 2) := by decide +kernel
theorem dM_init_148 : decode bM_init 148 = .ok (.if_icmp .ge 35, 3) := by decide +kernel
theorem dM_init_151 : decode bM_init 151 = .ok (.aload_n 0, 1) := by decide +kernel
theorem dM_init_152 : decode bM_init 152 = .ok (.getfield 16, 3) := by decide +kernel
theorem dM_init_155 : decode bM_init 155 = .ok (.bipush 8, 2) := by decide +kernel
theorem dM_init_157 : decode bM_init 157 = .ok (.iload_n 1, 1) := by decide +kernel
theorem dM_init_158 : decode bM_init 158 = .ok (.imul, 1) := by decide +kernel
theorem dM_init_159 : decode bM_init 159 = .ok (.iconst 1, 1) := by decide +kernel
theorem dM_init_160 : decode bM_init 160 = .ok (.iadd, 1) := by decide +kernel
theorem dM_init_161 : decode bM_init 161 = .ok (.iconst (-1), 1) := by decide +kernel
theorem dM_init_162 : decode bM_init 162 = .ok (.iastore, 1) := by decide +kernel
theorem dM_init_163 : decode bM_init 163 = .ok (.aload_n 0, 1) := by decide +kernel
theorem dM_init_164 : decode bM_init 164 = .ok (.getfield 16, 3) := by decide +kernel
theorem dM_init_167 : decode bM_init 167 = .ok (.bipush 8, 2) := by decide +kernel
theorem dM_init_169 : decode bM_init 169 = .ok (.iload_n 1, 1) := by decide +kernel
theorem dM_init_170 : decode bM_init 170 = .ok (.imul, 1) := by decide +kernel
theorem dM_init_171 : decode bM_init 171 = .ok (.iconst 5, 1) := by decide +kernel
theorem dM_init_172 : decode bM_init 172 = .ok (.iadd, 1) := by decide +kernel
theorem dM_init_173 : decode bM_init 173 = .ok (.sipush (-1000), 3) := by decide +kernel
theorem dM_init_176 : decode bM_init 176 = .ok (.iastore, 1) := by decide +kernel
theorem dM_init_177 : decode bM_init 177 = .ok (.iinc 1 1, 3) := by decide +kernel
theorem dM_init_180 : decode bM_init 180 = .ok (.goto (-35), 3) := by decide +kernel
theorem dM_init_183 : decode bM_init 183 = .ok (.return_, 1) := by decide +kernel
theorem dM_fare_0 : decode bM_fare 0 = .ok (.iload_n 1, 1) := by decide +kernel
theorem dM_fare_1 : decode bM_fare 1 = .ok (.iconst 0, 1) := by decide +kernel
theorem dM_fare_2 : decode bM_fare 2 = .ok (.iconst 5, 1) := by decide +kernel
theorem dM_fare_3 : decode bM_fare 3 = .ok (.invokestatic 53, 3) := by decide +kernel
theorem dM_fare_6 : decode bM_fare 6 = .ok (.ifCond .eq 23, 3) := by decide +kernel
theorem dM_fare_9 : decode bM_fare 9 = .ok (.iload_n 2, 1) := by decide +kernel
theorem dM_fare_10 : decode bM_fare 10 = .ok (.iconst 0, 1) := by decide +kernel
theorem dM_fare_11 : decode bM_fare 11 = .ok (.iconst 5, 1) := by decide +kernel
theorem dM_fare_12 : decode bM_fare 12 = .ok (.invokestatic 53, 3) := by decide +kernel
theorem dM_fare_15 : decode bM_fare 15 = .ok (.ifCond .eq 14, 3) := by decide +kernel
theorem dM_fare_18 : decode bM_fare 18 = .ok (.iload_n 3, 1) := by decide +kernel
theorem dM_fare_19 : decode bM_fare 19 = .ok (.iconst 0, 1) := by decide +kernel
theorem dM_fare_20 : decode bM_fare 20 = .ok (.sipush 999, 3) := by decide +kernel
theorem dM_fare_23 : decode bM_fare 23 = .ok (.invokestatic 53, 3) := by decide +kernel
theorem dM_fare_26 : decode bM_fare 26 = .ok (.ifCond .ne 5, 3) := by decide +kernel
theorem dM_fare_29 : decode bM_fare 29 = .ok (.iconst (-1), 1) := by decide +kernel
theorem dM_fare_30 : decode bM_fare 30 = .ok (.ireturn, 1) := by decide +kernel
theorem dM_fare_31 : decode bM_fare 31 = .ok (.aload_n 0, 1) := by decide +kernel
theorem dM_fare_32 : decode bM_fare 32 = .ok (.getfield 7, 3) := by decide +kernel
theorem dM_fare_35 : decode bM_fare 35 = .ok (.bipush 6, 2) := by decide +kernel
theorem dM_fare_37 : decode bM_fare 37 = .ok (.iload_n 1, 1) := by decide +kernel
theorem dM_fare_38 : decode bM_fare 38 = .ok (.imul, 1) := by decide +kernel
theorem dM_fare_39 : decode bM_fare 39 = .ok (.iload_n 2, 1) := by decide +kernel
theorem dM_fare_40 : decode bM_fare 40 = .ok (.iadd, 1) := by decide +kernel
theorem dM_fare_41 : decode bM_fare 41 = .ok (.iload_n 3, 1) := by decide +kernel
theorem dM_fare_42 : decode bM_fare 42 = .ok (.iastore, 1) := by decide +kernel
theorem dM_fare_43 : decode bM_fare 43 = .ok (.aload_n 0, 1) := by decide +kernel
theorem dM_fare_44 : decode bM_fare 44 = .ok (.getfield 7, 3) := by decide +kernel
theorem dM_fare_47 : decode bM_fare 47 = .ok (.bipush 6, 2) := by decide +kernel
theorem dM_fare_49 : decode bM_fare 49 = .ok (.iload_n 2, 1) := by decide +kernel
theorem dM_fare_50 : decode bM_fare 50 = .ok (.imul, 1) := by decide +kernel
theorem dM_fare_51 : decode bM_fare 51 = .ok (.iload_n 1, 1) := by decide +kernel
theorem dM_fare_52 : decode bM_fare 52 = .ok (.iadd, 1) := by decide +kernel
theorem dM_fare_53 : decode bM_fare 53 = .ok (.iload_n 3, 1) := by decide +kernel
theorem dM_fare_54 : decode bM_fare 54 = .ok (.iastore, 1) := by decide +kernel
theorem dM_fare_55 : decode bM_fare 55 = .ok (.iconst 0, 1) := by decide +kernel
theorem dM_fare_56 : decode bM_fare 56 = .ok (.ireturn, 1) := by decide +kernel
theorem dM_in_0 : decode bM_in 0 = .ok (.iload_n 0, 1) := by decide +kernel
theorem dM_in_1 : decode bM_in 1 = .ok (.iload_n 1, 1) := by decide +kernel
theorem dM_in_2 : decode bM_in 2 = .ok (.if_icmp .lt 12, 3) := by decide +kernel
theorem dM_in_5 : decode bM_in 5 = .ok (.iload_n 0, 1) := by decide +kernel
theorem dM_in_6 : decode bM_in 6 = .ok (.iload_n 2, 1) := by decide +kernel
theorem dM_in_7 : decode bM_in 7 = .ok (.if_icmp .gt 7, 3) := by decide +kernel
theorem dM_in_10 : decode bM_in 10 = .ok (.iconst 1, 1) := by decide +kernel
theorem dM_in_11 : decode bM_in 11 = .ok (.goto 4, 3) := by decide +kernel
theorem dM_in_14 : decode bM_in 14 = .ok (.iconst 0, 1) := by decide +kernel
theorem dM_in_15 : decode bM_in 15 = .ok (.ireturn, 1) := by decide +kernel
theorem dM_set_0 : decode bM_set 0 = .ok (.iload_n 1, 1) := by decide +kernel
theorem dM_set_1 : decode bM_set 1 = .ok (.iconst 0, 1) := by decide +kernel
theorem dM_set_2 : decode bM_set 2 = .ok (.iconst 4, 1) := by decide +kernel
theorem dM_set_3 : decode bM_set 3 = .ok (.invokestatic 53, 3) := by decide +kernel
theorem dM_set_6 : decode bM_set 6 = .ok (.ifCond .ne 5, 3) := by decide +kernel
theorem dM_set_9 : decode bM_set 9 = .ok (.iconst (-1), 1) := by decide +kernel
theorem dM_set_10 : decode bM_set 10 = .ok (.ireturn, 1) := by decide +kernel
theorem dM_set_11 : decode bM_set 11 = .ok (.iload_n 1, 1) := by decide +kernel
theorem dM_set_12 : decode bM_set 12 = .ok (.iconst 2, 1) := by decide +kernel
theorem dM_set_13 : decode bM_set 13 = .ok (.if_icmp .ge 9, 3) := by decide +kernel
theorem dM_set_16 : decode bM_set 16 = .ok (.sipush 1440, 3) := by decide +kernel
theorem dM_set_19 : decode bM_set 19 = .ok (.goto 28, 3) := by decide +kernel
theorem dM_set_22 : decode bM_set 22 = .ok (.iload_n 1, 1) := by decide +kernel
theorem dM_set_23 : decode bM_set 23 = .ok (.iconst 2, 1) := by decide +kernel
theorem dM_set_24 : decode bM_set 24 = .ok (.if_icmp .ne 9, 3) := by decide +kernel
theorem dM_set_27 : decode bM_set 27 = .ok (.sipush 200, 3) := by decide +kernel
theorem dM_set_30 : decode bM_set 30 = .ok (.goto 17, 3) := by decide +kernel
theorem dM_set_33 : decode bM_set 33 = .ok (.iload_n 1, 1) := by decide +kernel
theorem dM_set_34 : decode bM_set 34 = .ok (.iconst 3, 1) := by decide +kernel
theorem dM_set_35 : decode bM_set 35 = .ok (.if_icmp .ne 9, 3) := by decide +kernel
theorem dM_set_38 : decode bM_set 38 = .ok (.sipush 9999, 3) := by decide +kernel
theorem dM_set_41 : decode bM_set 41 = .ok (.goto 6, 3) := by decide +kernel
theorem dM_set_44 : decode bM_set 44 = .ok (.sipush 999, 3) := by decide +kernel
theorem dM_set_47 : decode bM_set 47 = .ok (.istore_n 3, 1) := by decide +kernel
theorem dM_set_48 : decode bM_set 48 = .ok (.iload_n 2, 1) := by decide +kernel
theorem dM_set_49 : decode bM_set 49 = .ok (.iconst 0, 1) := by decide +kernel
theorem dM_set_50 : decode bM_set 50 = .ok (.iload_n 3, 1) := by decide +kernel
theorem dM_set_51 : decode bM_set 51 = .ok (.invokestatic 53, 3) := by decide +kernel
theorem dM_set_54 : decode bM_set 54 = .ok (.ifCond .ne 5, 3) := by decide +kernel
theorem dM_set_57 : decode bM_set 57 = .ok (.iconst (-1), 1) := by decide +kernel
theorem dM_set_58 : decode bM_set 58 = .ok (.ireturn, 1) := by decide +kernel
theorem dM_set_59 : decode bM_set 59 = .ok (.aload_n 0, 1) := by decide +kernel
theorem dM_set_60 : decode bM_set 60 = .ok (.getfield 13, 3) := by decide +kernel
theorem dM_set_63 : decode bM_set 63 = .ok (.iload_n 1, 1) := by decide +kernel
theorem dM_set_64 : decode bM_set 64 = .ok (.iload_n 2, 1) := by decide +kernel
theorem dM_set_65 : decode bM_set 65 = .ok (.iastore, 1) := by decide +kernel
theorem dM_set_66 : decode bM_set 66 = .ok (.iconst 0, 1) := by decide +kernel
theorem dM_set_67 : decode bM_set 67 = .ok (.ireturn, 1) := by decide +kernel
theorem dM_place_0 : decode bM_place 0 = .ok (.iload_n 1, 1) := by decide +kernel
theorem dM_place_1 : decode bM_place 1 = .ok (.iconst 0, 1) := by decide +kernel
theorem dM_place_2 : decode bM_place 2 = .ok (.iconst 3, 1) := by decide +kernel
theorem dM_place_3 : decode bM_place 3 = .ok (.invokestatic 53, 3) := by decide +kernel
theorem dM_place_6 : decode bM_place 6 = .ok (.ifCond .eq 12, 3) := by decide +kernel
theorem dM_place_9 : decode bM_place 9 = .ok (.iload_n 2, 1) := by decide +kernel
theorem dM_place_10 : decode bM_place 10 = .ok (.iconst 0, 1) := by decide +kernel
theorem dM_place_11 : decode bM_place 11 = .ok (.iconst 5, 1) := by decide +kernel
theorem dM_place_12 : decode bM_place 12 = .ok (.invokestatic 53, 3) := by decide +kernel
theorem dM_place_15 : decode bM_place 15 = .ok (.ifCond .ne 5, 3) := by decide +kernel
theorem dM_place_18 : decode bM_place 18 = .ok (.iconst (-1), 1) := by decide +kernel
theorem dM_place_19 : decode bM_place 19 = .ok (.ireturn, 1) := by decide +kernel
theorem dM_place_20 : decode bM_place 20 = .ok (.aload_n 0, 1) := by decide +kernel
theorem dM_place_21 : decode bM_place 21 = .ok (.getfield 22, 3) := by decide +kernel
theorem dM_place_24 : decode bM_place 24 = .ok (.iload_n 1, 1) := by decide +kernel
theorem dM_place_25 : decode bM_place 25 = .ok (.iload_n 2, 1) := by decide +kernel
theorem dM_place_26 : decode bM_place 26 = .ok (.iastore, 1) := by decide +kernel
theorem dM_place_27 : decode bM_place 27 = .ok (.aload_n 0, 1) := by decide +kernel
theorem dM_place_28 : decode bM_place 28 = .ok (.getfield 25, 3) := by decide +kernel
theorem dM_place_31 : decode bM_place 31 = .ok (.iload_n 1, 1) := by decide +kernel
theorem dM_place_32 : decode bM_place 32 = .ok (.iload_n 3, 1) := by decide +kernel
theorem dM_place_33 : decode bM_place 33 = .ok (.bastore, 1) := by decide +kernel
theorem dM_place_34 : decode bM_place 34 = .ok (.iconst 0, 1) := by decide +kernel
theorem dM_place_35 : decode bM_place 35 = .ok (.ireturn, 1) := by decide +kernel
theorem dM_clock_0 : decode bM_clock 0 = .ok (.iload_n 1, 1) := by decide +kernel
theorem dM_clock_1 : decode bM_clock 1 = .ok (.iconst 0, 1) := by decide +kernel
theorem dM_clock_2 : decode bM_clock 2 = .ok (.sipush 3000, 3) := by decide +kernel
theorem dM_clock_5 : decode bM_clock 5 = .ok (.invokestatic 53, 3) := by decide +kernel
theorem dM_clock_8 : decode bM_clock 8 = .ok (.ifCond .ne 5, 3) := by decide +kernel
theorem dM_clock_11 : decode bM_clock 11 = .ok (.iconst (-1), 1) := by decide +kernel
theorem dM_clock_12 : decode bM_clock 12 = .ok (.ireturn, 1) := by decide +kernel
theorem dM_clock_13 : decode bM_clock 13 = .ok (.aload_n 0, 1) := by decide +kernel
theorem dM_clock_14 : decode bM_clock 14 = .ok (.dup, 1) := by decide +kernel
theorem dM_clock_15 : decode bM_clock 15 = .ok (.getfield 57, 3) := by decide +kernel
theorem dM_clock_18 : decode bM_clock 18 = .ok (.iload_n 1, 1) := by decide +kernel
theorem dM_clock_19 : decode bM_clock 19 = .ok (.iadd, 1) := by decide +kernel
theorem dM_clock_20 : decode bM_clock 20 = .ok (.putfield 57, 3) := by decide +kernel
theorem dM_clock_23 : decode bM_clock 23 = .ok (.aload_n 0, 1) := by decide +kernel
theorem dM_clock_24 : decode bM_clock 24 = .ok (.getfield 57, 3) := by decide +kernel
theorem dM_clock_27 : decode bM_clock 27 = .ok (.ireturn, 1) := by decide +kernel
