theorem dO_init_0 : decode bO_init 0 = .ok (.aload_n 0, 1) := by decide +kernel
theorem dO_init_1 : decode bO_init 1 = .ok (.invokespecial 1, 3) := by decide +kernel
theorem dO_init_4 : decode bO_init 4 = .ok (.aload_n 0, 1) := by decide +kernel
theorem dO_init_5 : decode bO_init 5 = .ok (.new 7, 3) := by decide +kernel
theorem dO_init_8 : decode bO_init 8 = .ok (.dup, 1) := by decide +kernel
theorem dO_init_9 : decode bO_init 9 = .ok (.invokespecial 9, 3) := by decide +kernel
theorem dO_init_12 : decode bO_init 12 = .ok (.putfield 10, 3) := by decide +kernel
theorem dO_init_15 : decode bO_init 15 = .ok (.aload_n 0, 1) := by decide +kernel
theorem dO_init_16 : decode bO_init 16 = .ok (.iconst 4, 1) := by decide +kernel
theorem dO_init_17 : decode bO_init 17 = .ok (.anewarray 16, 3) := by decide +kernel
theorem dO_init_20 : decode bO_init 20 = .ok (.putfield 18, 3) := by decide +kernel
theorem dO_init_23 : decode bO_init 23 = .ok (.aload_n 0, 1) := by decide +kernel
theorem dO_init_24 : decode bO_init 24 = .ok (.iconst 4, 1) := by decide +kernel
theorem dO_init_25 : decode bO_init 25 = .ok (.anewarray 22, 3) := by decide +kernel
theorem dO_init_28 : decode bO_init 28 = .ok (.putfield 24, 3) := by decide +kernel
theorem dO_init_31 : decode bO_init 31 = .ok (.aload_n 0, 1) := by decide +kernel
theorem dO_init_32 : decode bO_init 32 = .ok (.iconst 4, 1) := by decide +kernel
theorem dO_init_33 : decode bO_init 33 = .ok (.anewarray 28, 3) := by decide +kernel
theorem dO_init_36 : decode bO_init 36 = .ok (.putfield 30, 3) := by decide +kernel
theorem dO_init_39 : decode bO_init 39 = .ok (.aload_n 0, 1) := by decide +kernel
theorem dO_init_40 : decode bO_init 40 = .ok (.iconst 4, 1) := by decide +kernel
theorem dO_init_41 : decode bO_init 41 = .ok (.newarray .int, 2) := by decide +kernel
theorem dO_init_43 : decode bO_init 43 = .ok (.putfield 34, 3) := by decide +kernel
theorem dO_init_46 : decode bO_init 46 = .ok (.iconst 0, 1) := by decide +kernel
theorem dO_init_47 : decode bO_init 47 = .ok (.istore_n 1, 1) := by decide +kernel
theorem dO_init_48 : decode bO_init 48 = .ok (.iload_n 1, 1) := by decide +kernel
theorem dO_init_49 : decode bO_init 49 = .ok (.iconst 4, 1) := by decide +kernel
theorem dO_init_50 : decode bO_init 50 = .ok (.if_icmp .ge 35, 3) := by decide +kernel
theorem dO_init_53 : decode bO_init 53 = .ok (.aload_n 0, 1) := by decide +kernel
theorem dO_init_54 : decode bO_init 54 = .ok (.getfield 18, 3) := by decide +kernel
theorem dO_init_57 : decode bO_init 57 = .ok (.iload_n 1, 1) := by decide +kernel
theorem dO_init_58 : decode bO_init 58 = .ok (.new 16, 3) := by decide +kernel
theorem dO_init_61 : decode bO_init 61 = .ok (.dup, 1) := by decide +kernel
theorem dO_init_62 : decode bO_init 62 = .ok (.invokespecial 38, 3) := by decide +kernel
theorem dO_init_65 : decode bO_init 65 = .ok (.aastore, 1) := by decide +kernel
theorem dO_init_66 : decode bO_init 66 = .ok (.aload_n 0, 1) := by decide +kernel
theorem dO_init_67 : decode bO_init 67 = .ok (.getfield 24, 3) := by decide +kernel
theorem dO_init_70 : decode bO_init 70 = .ok (.iload_n 1, 1) := by decide +kernel
theorem dO_init_71 : decode bO_init 71 = .ok (.new 22, 3) := by decide +kernel
theorem dO_init_74 : decode bO_init 74 = .ok (.dup, 1) := by decide +kernel
theorem dO_init_75 : decode bO_init 75 = .ok (.invokespecial 39, 3) := by decide +kernel
theorem dO_init_78 : decode bO_init 78 = .ok (.aastore, 1) := by decide +kernel
theorem dO_init_79 : decode bO_init 79 = .ok (.iinc 1 1, 3) := by decide +kernel
theorem dO_init_82 : decode bO_init 82 = .ok (.goto (-34), 3) := by decide +kernel
theorem dO_init_85 : decode bO_init 85 = .ok (.iconst 0, 1) := by decide +kernel
theorem dO_init_86 : decode bO_init 86 = .ok (.istore_n 1, 1) := by decide +kernel
theorem dO_init_87 : decode bO_init 87 = .ok (.iload_n 1, 1) := by decide +kernel
theorem dO_init_88 : decode bO_init 88 = .ok (.iconst 4, 1) := by decide +kernel
theorem dO_init_89 : decode bO_init 89 = .ok (.if_icmp .ge 23, 3) := by decide +kernel
theorem dO_init_92 : decode bO_init 92 = .ok (.aload_n 0, 1) := by decide +kernel
theorem dO_init_93 : decode bO_init 93 = .ok (.getfield 30, 3) := by decide +kernel
theorem dO_init_96 : decode bO_init 96 = .ok (.iload_n 1, 1) := by decide +kernel
theorem dO_init_97 : decode bO_init 97 = .ok (.new 28, 3) := by decide +kernel
theorem dO_init_100 : decode bO_init 100 = .ok (.dup, 1) := by decide +kernel
theorem dO_init_101 : decode bO_init 101 = .ok (.iload_n 1, 1) := by decide +kernel
theorem dO_init_102 : decode bO_init 102 = .ok (.invokespecial 40, 3) := by decide +kernel
theorem dO_init_105 : decode bO_init 105 = .ok (.aastore, 1) := by decide +kernel
theorem dO_init_106 : decode bO_init 106 = .ok (.iinc 1 1, 3) := by decide +kernel
theorem dO_init_109 : decode bO_init 109 = .ok (.goto (-22), 3) := by decide +kernel
theorem dO_init_112 : decode bO_init 112 = .ok (.return_, 1) := by decide +kernel
theorem dT_init_0 : decode bT_init 0 = .ok (.aload_n 0, 1) := by decide +kernel
theorem dT_init_1 : decode bT_init 1 = .ok (.invokespecial 3, 3) := by decide +kernel
theorem dT_init_4 : decode bT_init 4 = .ok (.aload_n 0, 1) := by decide +kernel
theorem dT_init_5 : decode bT_init 5 = .ok (.bipush 6, 2) := by decide +kernel
theorem dT_init_7 : decode bT_init 7 = .ok (.bipush 6, 2) := by decide +kernel
theorem dT_init_9 : decode bT_init 9 = .ok (.multianewarray 9 2, 4) := by decide +kernel
theorem dT_init_13 : decode bT_init 13 = .ok (.putfield 11, 3) := by decide +kernel
theorem dT_init_16 : decode bT_init 16 = .ok (.aload_n 0, 1) := by decide +kernel
theorem dT_init_17 : decode bT_init 17 = .ok (.getstatic 16, 3) := by decide +kernel
theorem dT_init_20 : decode bT_init 20 = .ok (.invokevirtual 20, 3) := by decide +kernel
theorem dT_init_23 : decode bT_init 23 = .ok (.checkcast 21, 3) := by decide +kernel
theorem dT_init_26 : decode bT_init 26 = .ok (.putfield 25, 3) := by decide +kernel
theorem dT_init_29 : decode bT_init 29 = .ok (.return_, 1) := by decide +kernel
theorem dC_init_0 : decode bC_init 0 = .ok (.aload_n 0, 1) := by decide +kernel
theorem dC_init_1 : decode bC_init 1 = .ok (.invokespecial 3, 3) := by decide +kernel
theorem dC_init_4 : decode bC_init 4 = .ok (.aload_n 0, 1) := by decide +kernel
theorem dC_init_5 : decode bC_init 5 = .ok (.iconst 2, 1) := by decide +kernel
theorem dC_init_6 : decode bC_init 6 = .ok (.bipush 8, 2) := by decide +kernel
theorem dC_init_8 : decode bC_init 8 = .ok (.multianewarray 9 2, 4) := by decide +kernel
theorem dC_init_12 : decode bC_init 12 = .ok (.putfield 11, 3) := by decide +kernel
theorem dC_init_15 : decode bC_init 15 = .ok (.aload_n 0, 1) := by decide +kernel
theorem dC_init_16 : decode bC_init 16 = .ok (.bipush 8, 2) := by decide +kernel
theorem dC_init_18 : decode bC_init 18 = .ok (.newarray .int, 2) := by decide +kernel
theorem dC_init_20 : decode bC_init 20 = .ok (.putfield 16, 3) := by decide +kernel
theorem dC_init_23 : decode bC_init 23 = .ok (.getstatic 20, 3) := by decide +kernel
theorem dC_init_26 : decode bC_init 26 = .ok (.iconst 0, 1) := by decide +kernel
theorem dC_init_27 : decode bC_init 27 = .ok (.aload_n 0, 1) := by decide +kernel
theorem dC_init_28 : decode bC_init 28 = .ok (.getfield 11, 3) := by decide +kernel
theorem dC_init_31 : decode bC_init 31 = .ok (.iconst 0, 1) := by decide +kernel
theorem dC_init_32 : decode bC_init 32 = .ok (.aaload, 1) := by decide +kernel
theorem dC_init_33 : decode bC_init 33 = .ok (.iconst 0, 1) := by decide +kernel
theorem dC_init_34 : decode bC_init 34 = .ok (.bipush 8, 2) := by decide +kernel
theorem dC_init_36 : decode bC_init 36 = .ok (.invokestatic 23, 3) := by decide +kernel
theorem dC_init_39 : decode bC_init 39 = .ok (.getstatic 20, 3) := by decide +kernel
theorem dC_init_42 : decode bC_init 42 = .ok (.iconst 0, 1) := by decide +kernel
theorem dC_init_43 : decode bC_init 43 = .ok (.aload_n 0, 1) := by decide +kernel
theorem dC_init_44 : decode bC_init 44 = .ok (.getfield 11, 3) := by decide +kernel
theorem dC_init_47 : decode bC_init 47 = .ok (.iconst 1, 1) := by decide +kernel
theorem dC_init_48 : decode bC_init 48 = .ok (.aaload, 1) := by decide +kernel
theorem dC_init_49 : decode bC_init 49 = .ok (.iconst 0, 1) := by decide +kernel
theorem dC_init_50 : decode bC_init 50 = .ok (.bipush 8, 2) := by decide +kernel
theorem dC_init_52 : decode bC_init 52 = .ok (.invokestatic 23, 3) := by decide +kernel
theorem dC_init_55 : decode bC_init 55 = .ok (.return_, 1) := by decide +kernel
theorem dA_init_0 : decode bA_init 0 = .ok (.aload_n 0, 1) := by decide +kernel
theorem dA_init_1 : decode bA_init 1 = .ok (.invokespecial 3, 3) := by decide +kernel
theorem dA_init_4 : decode bA_init 4 = .ok (.aload_n 0, 1) := by decide +kernel
theorem dA_init_5 : decode bA_init 5 = .ok (.sipush 513, 3) := by decide +kernel
theorem dA_init_8 : decode bA_init 8 = .ok (.newarray .boolean, 2) := by decide +kernel
theorem dA_init_10 : decode bA_init 10 = .ok (.putfield 9, 3) := by decide +kernel
theorem dA_init_13 : decode bA_init 13 = .ok (.aload_n 0, 1) := by decide +kernel
theorem dA_init_14 : decode bA_init 14 = .ok (.sipush 513, 3) := by decide +kernel
theorem dA_init_17 : decode bA_init 17 = .ok (.newarray .int, 2) := by decide +kernel
theorem dA_init_19 : decode bA_init 19 = .ok (.putfield 15, 3) := by decide +kernel
theorem dA_init_22 : decode bA_init 22 = .ok (.aload_n 0, 1) := by decide +kernel
theorem dA_init_23 : decode bA_init 23 = .ok (.sipush 513, 3) := by decide +kernel
theorem dA_init_26 : decode bA_init 26 = .ok (.newarray .int, 2) := by decide +kernel
theorem dA_init_28 : decode bA_init 28 = .ok (.putfield 19, 3) := by decide +kernel
theorem dA_init_31 : decode bA_init 31 = .ok (.return_, 1) := by decide +kernel
theorem dV_init_0 : decode bV_init 0 = .ok (.aload_n 0, 1) := by decide +kernel
theorem dV_init_1 : decode bV_init 1 = .ok (.invokespecial 3, 3) := by decide +kernel
theorem dV_init_4 : decode bV_init 4 = .ok (.aload_n 0, 1) := by decide +kernel
theorem dV_init_5 : decode bV_init 5 = .ok (.bipush 8, 2) := by decide +kernel
theorem dV_init_7 : decode bV_init 7 = .ok (.iconst 4, 1) := by decide +kernel
theorem dV_init_8 : decode bV_init 8 = .ok (.multianewarray 9 2, 4) := by decide +kernel
theorem dV_init_12 : decode bV_init 12 = .ok (.putfield 11, 3) := by decide +kernel
theorem dV_init_15 : decode bV_init 15 = .ok (.aload_n 0, 1) := by decide +kernel
theorem dV_init_16 : decode bV_init 16 = .ok (.iload_n 1, 1) := by decide +kernel
theorem dV_init_17 : decode bV_init 17 = .ok (.putfield 16, 3) := by decide +kernel
theorem dV_init_20 : decode bV_init 20 = .ok (.return_, 1) := by decide +kernel
theorem dO_fare_0 : decode bO_fare 0 = .ok (.iload_n 1, 1) := by decide +kernel
theorem dO_fare_1 : decode bO_fare 1 = .ok (.bipush 6, 2) := by decide +kernel
theorem dO_fare_3 : decode bO_fare 3 = .ok (.invokestatic 43, 3) := by decide +kernel
theorem dO_fare_6 : decode bO_fare 6 = .ok (.ifCond .eq 23, 3) := by decide +kernel
theorem dO_fare_9 : decode bO_fare 9 = .ok (.iload_n 2, 1) := by decide +kernel
theorem dO_fare_10 : decode bO_fare 10 = .ok (.bipush 6, 2) := by decide +kernel
theorem dO_fare_12 : decode bO_fare 12 = .ok (.invokestatic 43, 3) := by decide +kernel
theorem dO_fare_15 : decode bO_fare 15 = .ok (.ifCond .eq 14, 3) := by decide +kernel
theorem dO_fare_18 : decode bO_fare 18 = .ok (.iload_n 3, 1) := by decide +kernel
theorem dO_fare_19 : decode bO_fare 19 = .ok (.ifCond .lt 10, 3) := by decide +kernel
theorem dO_fare_22 : decode bO_fare 22 = .ok (.iload_n 3, 1) := by decide +kernel
theorem dO_fare_23 : decode bO_fare 23 = .ok (.sipush 999, 3) := by decide +kernel
theorem dO_fare_26 : decode bO_fare 26 = .ok (.if_icmp .le 5, 3) := by decide +kernel
theorem dO_fare_29 : decode bO_fare 29 = .ok (.iconst (-1), 1) := by decide +kernel
theorem dO_fare_30 : decode bO_fare 30 = .ok (.ireturn, 1) := by decide +kernel
theorem dO_fare_31 : decode bO_fare 31 = .ok (.aload_n 0, 1) := by decide +kernel
theorem dO_fare_32 : decode bO_fare 32 = .ok (.getfield 10, 3) := by decide +kernel
theorem dO_fare_35 : decode bO_fare 35 = .ok (.iload_n 1, 1) := by decide +kernel
theorem dO_fare_36 : decode bO_fare 36 = .ok (.iload_n 2, 1) := by decide +kernel
theorem dO_fare_37 : decode bO_fare 37 = .ok (.iload_n 3, 1) := by decide +kernel
theorem dO_fare_38 : decode bO_fare 38 = .ok (.invokevirtual 47, 3) := by decide +kernel
theorem dO_fare_41 : decode bO_fare 41 = .ok (.iconst 0, 1) := by decide +kernel
theorem dO_fare_42 : decode bO_fare 42 = .ok (.ireturn, 1) := by decide +kernel
theorem dO_isBelow_0 : decode bO_isBelow 0 = .ok (.iload_n 0, 1) := by decide +kernel
theorem dO_isBelow_1 : decode bO_isBelow 1 = .ok (.ifCond .lt 12, 3) := by decide +kernel
theorem dO_isBelow_4 : decode bO_isBelow 4 = .ok (.iload_n 0, 1) := by decide +kernel
theorem dO_isBelow_5 : decode bO_isBelow 5 = .ok (.iload_n 1, 1) := by decide +kernel
theorem dO_isBelow_6 : decode bO_isBelow 6 = .ok (.if_icmp .ge 7, 3) := by decide +kernel
theorem dO_isBelow_9 : decode bO_isBelow 9 = .ok (.iconst 1, 1) := by decide +kernel
theorem dO_isBelow_10 : decode bO_isBelow 10 = .ok (.goto 4, 3) := by decide +kernel
theorem dO_isBelow_13 : decode bO_isBelow 13 = .ok (.iconst 0, 1) := by decide +kernel
theorem dO_isBelow_14 : decode bO_isBelow 14 = .ok (.ireturn, 1) := by decide +kernel
theorem dT_putFare_0 : decode bT_putFare 0 = .ok (.aload_n 0, 1) := by decide +kernel
theorem dT_putFare_1 : decode bT_putFare 1 = .ok (.getfield 11, 3) := by decide +kernel
theorem dT_putFare_4 : decode bT_putFare 4 = .ok (.iload_n 1, 1) := by decide +kernel
theorem dT_putFare_5 : decode bT_putFare 5 = .ok (.aaload, 1) := by decide +kernel
theorem dT_putFare_6 : decode bT_putFare 6 = .ok (.iload_n 2, 1) := by decide +kernel
theorem dT_putFare_7 : decode bT_putFare 7 = .ok (.iload_n 3, 1) := by decide +kernel
theorem dT_putFare_8 : decode bT_putFare 8 = .ok (.iastore, 1) := by decide +kernel
theorem dT_putFare_9 : decode bT_putFare 9 = .ok (.aload_n 0, 1) := by decide +kernel
theorem dT_putFare_10 : decode bT_putFare 10 = .ok (.getfield 11, 3) := by decide +kernel
theorem dT_putFare_13 : decode bT_putFare 13 = .ok (.iload_n 2, 1) := by decide +kernel
theorem dT_putFare_14 : decode bT_putFare 14 = .ok (.aaload, 1) := by decide +kernel
theorem dT_putFare_15 : decode bT_putFare 15 = .ok (.iload_n 1, 1) := by decide +kernel
theorem dT_putFare_16 : decode bT_putFare 16 = .ok (.iload_n 3, 1) := by decide +kernel
theorem dT_putFare_17 : decode bT_putFare 17 = .ok (.iastore, 1) := by decide +kernel
theorem dT_putFare_18 : decode bT_putFare 18 = .ok (.return_, 1) := by decide +kernel
theorem dO_set_0 : decode bO_set 0 = .ok (.iload_n 1, 1) := by decide +kernel
theorem dO_set_1 : decode bO_set 1 = .ok (.iconst 5, 1) := by decide +kernel
theorem dO_set_2 : decode bO_set 2 = .ok (.invokestatic 43, 3) := by decide +kernel
theorem dO_set_5 : decode bO_set 5 = .ok (.ifCond .eq 16, 3) := by decide +kernel
theorem dO_set_8 : decode bO_set 8 = .ok (.iload_n 2, 1) := by decide +kernel
theorem dO_set_9 : decode bO_set 9 = .ok (.ifCond .lt 12, 3) := by decide +kernel
theorem dO_set_12 : decode bO_set 12 = .ok (.iload_n 2, 1) := by decide +kernel
theorem dO_set_13 : decode bO_set 13 = .ok (.getstatic 51, 3) := by decide +kernel
theorem dO_set_16 : decode bO_set 16 = .ok (.iload_n 1, 1) := by decide +kernel
theorem dO_set_17 : decode bO_set 17 = .ok (.iaload, 1) := by decide +kernel
theorem dO_set_18 : decode bO_set 18 = .ok (.if_icmp .le 5, 3) := by decide +kernel
theorem dO_set_21 : decode bO_set 21 = .ok (.iconst (-1), 1) := by decide +kernel
theorem dO_set_22 : decode bO_set 22 = .ok (.ireturn, 1) := by decide +kernel
theorem dO_set_23 : decode bO_set 23 = .ok (.aload_n 0, 1) := by decide +kernel
theorem dO_set_24 : decode bO_set 24 = .ok (.getfield 10, 3) := by decide +kernel
theorem dO_set_27 : decode bO_set 27 = .ok (.iload_n 1, 1) := by decide +kernel
theorem dO_set_28 : decode bO_set 28 = .ok (.iload_n 2, 1) := by decide +kernel
theorem dO_set_29 : decode bO_set 29 = .ok (.invokevirtual 54, 3) := by decide +kernel
theorem dO_set_32 : decode bO_set 32 = .ok (.iconst 0, 1) := by decide +kernel
theorem dO_set_33 : decode bO_set 33 = .ok (.ireturn, 1) := by decide +kernel
theorem dT_putSetting_0 : decode bT_putSetting 0 = .ok (.aload_n 0, 1) := by decide +kernel
theorem dT_putSetting_1 : decode bT_putSetting 1 = .ok (.getfield 25, 3) := by decide +kernel
theorem dT_putSetting_4 : decode bT_putSetting 4 = .ok (.iload_n 1, 1) := by decide +kernel
theorem dT_putSetting_5 : decode bT_putSetting 5 = .ok (.iload_n 2, 1) := by decide +kernel
theorem dT_putSetting_6 : decode bT_putSetting 6 = .ok (.iastore, 1) := by decide +kernel
theorem dT_putSetting_7 : decode bT_putSetting 7 = .ok (.return_, 1) := by decide +kernel
theorem dO_place_0 : decode bO_place 0 = .ok (.iload_n 1, 1) := by decide +kernel
theorem dO_place_1 : decode bO_place 1 = .ok (.iconst 4, 1) := by decide +kernel
theorem dO_place_2 : decode bO_place 2 = .ok (.invokestatic 43, 3) := by decide +kernel
theorem dO_place_5 : decode bO_place 5 = .ok (.ifCond .eq 12, 3) := by decide +kernel
theorem dO_place_8 : decode bO_place 8 = .ok (.iload_n 2, 1) := by decide +kernel
theorem dO_place_9 : decode bO_place 9 = .ok (.bipush 6, 2) := by decide +kernel
theorem dO_place_11 : decode bO_place 11 = .ok (.invokestatic 43, 3) := by decide +kernel
theorem dO_place_14 : decode bO_place 14 = .ok (.ifCond .ne 5, 3) := by decide +kernel
theorem dO_place_17 : decode bO_place 17 = .ok (.iconst (-1), 1) := by decide +kernel
theorem dO_place_18 : decode bO_place 18 = .ok (.ireturn, 1) := by decide +kernel
theorem dO_place_19 : decode bO_place 19 = .ok (.aload_n 0, 1) := by decide +kernel
theorem dO_place_20 : decode bO_place 20 = .ok (.getfield 30, 3) := by decide +kernel
theorem dO_place_23 : decode bO_place 23 = .ok (.iload_n 1, 1) := by decide +kernel
theorem dO_place_24 : decode bO_place 24 = .ok (.aaload, 1) := by decide +kernel
theorem dO_place_25 : decode bO_place 25 = .ok (.iload_n 2, 1) := by decide +kernel
theorem dO_place_26 : decode bO_place 26 = .ok (.iload_n 3, 1) := by decide +kernel
theorem dO_place_27 : decode bO_place 27 = .ok (.invokevirtual 58, 3) := by decide +kernel
theorem dO_place_30 : decode bO_place 30 = .ok (.iconst 0, 1) := by decide +kernel
theorem dO_place_31 : decode bO_place 31 = .ok (.ireturn, 1) := by decide +kernel
theorem dV_moveTo_0 : decode bV_moveTo 0 = .ok (.aload_n 0, 1) := by decide +kernel
theorem dV_moveTo_1 : decode bV_moveTo 1 = .ok (.iload_n 1, 1) := by decide +kernel
theorem dV_moveTo_2 : decode bV_moveTo 2 = .ok (.putfield 16, 3) := by decide +kernel
theorem dV_moveTo_5 : decode bV_moveTo 5 = .ok (.aload_n 0, 1) := by decide +kernel
theorem dV_moveTo_6 : decode bV_moveTo 6 = .ok (.iload_n 2, 1) := by decide +kernel
theorem dV_moveTo_7 : decode bV_moveTo 7 = .ok (.putfield 20, 3) := by decide +kernel
theorem dV_moveTo_10 : decode bV_moveTo 10 = .ok (.return_, 1) := by decide +kernel
theorem dO_clock_0 : decode bO_clock 0 = .ok (.iload_n 1, 1) := by decide +kernel
theorem dO_clock_1 : decode bO_clock 1 = .ok (.ifCond .lt 10, 3) := by decide +kernel
theorem dO_clock_4 : decode bO_clock 4 = .ok (.iload_n 1, 1) := by decide +kernel
theorem dO_clock_5 : decode bO_clock 5 = .ok (.sipush 3000, 3) := by decide +kernel
theorem dO_clock_8 : decode bO_clock 8 = .ok (.if_icmp .le 5, 3) := by decide +kernel
theorem dO_clock_11 : decode bO_clock 11 = .ok (.iconst (-1), 1) := by decide +kernel
theorem dO_clock_12 : decode bO_clock 12 = .ok (.ireturn, 1) := by decide +kernel
theorem dO_clock_13 : decode bO_clock 13 = .ok (.aload_n 0, 1) := by decide +kernel
theorem dO_clock_14 : decode bO_clock 14 = .ok (.dup, 1) := by decide +kernel
theorem dO_clock_15 : decode bO_clock 15 = .ok (.getfield 62, 3) := by decide +kernel
theorem dO_clock_18 : decode bO_clock 18 = .ok (.iload_n 1, 1) := by decide +kernel
theorem dO_clock_19 : decode bO_clock 19 = .ok (.iadd, 1) := by decide +kernel
theorem dO_clock_20 : decode bO_clock 20 = .ok (.putfield 62, 3) := by decide +kernel
theorem dO_clock_23 : decode bO_clock 23 = .ok (.aload_n 0, 1) := by decide +kernel
theorem dO_clock_24 : decode bO_clock 24 = .ok (.getfield 62, 3) := by decide +kernel
theorem dO_clock_27 : decode bO_clock 27 = .ok (.ireturn, 1) := by decide +kernel
theorem dO_tap_0 : decode bO_tap 0 = .ok (.iload_n 1, 1) := by decide +kernel
theorem dO_tap_1 : decode bO_tap 1 = .ok (.iconst 4, 1) := by decide +kernel
theorem dO_tap_2 : decode bO_tap 2 = .ok (.invokestatic 43, 3) := by decide +kernel
theorem dO_tap_5 : decode bO_tap 5 = .ok (.ifCond .eq 21, 3) := by decide +kernel
theorem dO_tap_8 : decode bO_tap 8 = .ok (.iload_n 2, 1) := by decide +kernel
theorem dO_tap_9 : decode bO_tap 9 = .ok (.iconst 4, 1) := by decide +kernel
theorem dO_tap_10 : decode bO_tap 10 = .ok (.invokestatic 43, 3) := by decide +kernel
theorem dO_tap_13 : decode bO_tap 13 = .ok (.ifCond .eq 13, 3) := by decide +kernel
theorem dO_tap_16 : decode bO_tap 16 = .ok (.iload_n 3, 1) := by decide +kernel
theorem dO_tap_17 : decode bO_tap 17 = .ok (.ifCond .lt 9, 3) := by decide +kernel
theorem dO_tap_20 : decode bO_tap 20 = .ok (.iload_n 3, 1) := by decide +kernel
theorem dO_tap_21 : decode bO_tap 21 = .ok (.bipush 8, 2) := by decide +kernel
theorem dO_tap_23 : decode bO_tap 23 = .ok (.if_icmp .le 5, 3) := by decide +kernel
theorem dO_tap_26 : decode bO_tap 26 = .ok (.iconst (-1), 1) := by decide +kernel
theorem dO_tap_27 : decode bO_tap 27 = .ok (.ireturn, 1) := by decide +kernel
theorem dO_tap_28 : decode bO_tap 28 = .ok (.aload_n 0, 1) := by decide +kernel
theorem dO_tap_29 : decode bO_tap 29 = .ok (.getfield 18, 3) := by decide +kernel
theorem dO_tap_32 : decode bO_tap 32 = .ok (.iload_n 1, 1) := by decide +kernel
theorem dO_tap_33 : decode bO_tap 33 = .ok (.aaload, 1) := by decide +kernel
theorem dO_tap_34 : decode bO_tap 34 = .ok (.astore 4, 2) := by decide +kernel
theorem dO_tap_36 : decode bO_tap 36 = .ok (.aload_n 0, 1) := by decide +kernel
theorem dO_tap_37 : decode bO_tap 37 = .ok (.getfield 30, 3) := by decide +kernel
theorem dO_tap_40 : decode bO_tap 40 = .ok (.iload_n 2, 1) := by decide +kernel
theorem dO_tap_41 : decode bO_tap 41 = .ok (.aaload, 1) := by decide +kernel
theorem dO_tap_42 : decode bO_tap 42 = .ok (.astore 5, 2) := by decide +kernel
theorem dO_tap_44 : decode bO_tap 44 = .ok (.aload 5, 2) := by decide +kernel
theorem dO_tap_46 : decode bO_tap 46 = .ok (.invokevirtual 66, 3) := by decide +kernel
theorem dO_tap_49 : decode bO_tap 49 = .ok (.ifCond .eq 6, 3) := by decide +kernel
theorem dO_tap_52 : decode bO_tap 52 = .ok (.bipush (-2), 2) := by decide +kernel
theorem dO_tap_54 : decode bO_tap 54 = .ok (.ireturn, 1) := by decide +kernel
theorem dO_tap_55 : decode bO_tap 55 = .ok (.aload 5, 2) := by decide +kernel
theorem dO_tap_57 : decode bO_tap 57 = .ok (.iload_n 1, 1) := by decide +kernel
theorem dO_tap_58 : decode bO_tap 58 = .ok (.invokevirtual 70, 3) := by decide +kernel
theorem dO_tap_61 : decode bO_tap 61 = .ok (.ifCond .eq 6, 3) := by decide +kernel
theorem dO_tap_64 : decode bO_tap 64 = .ok (.bipush (-4), 2) := by decide +kernel
theorem dO_tap_66 : decode bO_tap 66 = .ok (.ireturn, 1) := by decide +kernel
theorem dO_tap_67 : decode bO_tap 67 = .ok (.aload 5, 2) := by decide +kernel
theorem dO_tap_69 : decode bO_tap 69 = .ok (.invokevirtual 74, 3) := by decide +kernel
theorem dO_tap_72 : decode bO_tap 72 = .ok (.ifCond .ne 22, 3) := by decide +kernel
theorem dO_tap_75 : decode bO_tap 75 = .ok (.aload 4, 2) := by decide +kernel
theorem dO_tap_77 : decode bO_tap 77 = .ok (.iconst 0, 1) := by decide +kernel
theorem dO_tap_78 : decode bO_tap 78 = .ok (.invokevirtual 77, 3) := by decide +kernel
theorem dO_tap_81 : decode bO_tap 81 = .ok (.aload_n 0, 1) := by decide +kernel
theorem dO_tap_82 : decode bO_tap 82 = .ok (.getfield 10, 3) := by decide +kernel
theorem dO_tap_85 : decode bO_tap 85 = .ok (.invokevirtual 81, 3) := by decide +kernel
theorem dO_tap_88 : decode bO_tap 88 = .ok (.if_icmp .ge 6, 3) := by decide +kernel
theorem dO_tap_91 : decode bO_tap 91 = .ok (.bipush (-3), 2) := by decide +kernel
theorem dO_tap_93 : decode bO_tap 93 = .ok (.ireturn, 1) := by decide +kernel
theorem dO_tap_94 : decode bO_tap 94 = .ok (.aload 4, 2) := by decide +kernel
theorem dO_tap_96 : decode bO_tap 96 = .ok (.aload 5, 2) := by decide +kernel
theorem dO_tap_98 : decode bO_tap 98 = .ok (.aload_n 0, 1) := by decide +kernel
theorem dO_tap_99 : decode bO_tap 99 = .ok (.getfield 62, 3) := by decide +kernel
theorem dO_tap_102 : decode bO_tap 102 = .ok (.aload_n 0, 1) := by decide +kernel
theorem dO_tap_103 : decode bO_tap 103 = .ok (.getfield 10, 3) := by decide +kernel
theorem dO_tap_106 : decode bO_tap 106 = .ok (.invokevirtual 85, 3) := by decide +kernel
theorem dO_tap_109 : decode bO_tap 109 = .ok (.istore 6, 2) := by decide +kernel
theorem dO_tap_111 : decode bO_tap 111 = .ok (.iload_n 3, 1) := by decide +kernel
theorem dO_tap_112 : decode bO_tap 112 = .ok (.ifCond .eq 22, 3) := by decide +kernel
theorem dO_tap_115 : decode bO_tap 115 = .ok (.aload 4, 2) := by decide +kernel
theorem dO_tap_117 : decode bO_tap 117 = .ok (.iload_n 3, 1) := by decide +kernel
theorem dO_tap_118 : decode bO_tap 118 = .ok (.invokevirtual 89, 3) := by decide +kernel
theorem dO_tap_121 : decode bO_tap 121 = .ok (.aload_n 0, 1) := by decide +kernel
theorem dO_tap_122 : decode bO_tap 122 = .ok (.dup, 1) := by decide +kernel
theorem dO_tap_123 : decode bO_tap 123 = .ok (.getfield 92, 3) := by decide +kernel
theorem dO_tap_126 : decode bO_tap 126 = .ok (.iconst 1, 1) := by decide +kernel
theorem dO_tap_127 : decode bO_tap 127 = .ok (.iadd, 1) := by decide +kernel
theorem dO_tap_128 : decode bO_tap 128 = .ok (.putfield 92, 3) := by decide +kernel
theorem dO_tap_131 : decode bO_tap 131 = .ok (.bipush (-5), 2) := by decide +kernel
theorem dO_tap_133 : decode bO_tap 133 = .ok (.ireturn, 1) := by decide +kernel
theorem dO_tap_134 : decode bO_tap 134 = .ok (.aload 4, 2) := by decide +kernel
theorem dO_tap_136 : decode bO_tap 136 = .ok (.bipush 8, 2) := by decide +kernel
theorem dO_tap_138 : decode bO_tap 138 = .ok (.invokevirtual 89, 3) := by decide +kernel
theorem dO_tap_141 : decode bO_tap 141 = .ok (.aload 5, 2) := by decide +kernel
theorem dO_tap_143 : decode bO_tap 143 = .ok (.iload_n 1, 1) := by decide +kernel
theorem dO_tap_144 : decode bO_tap 144 = .ok (.aload 4, 2) := by decide +kernel
theorem dO_tap_146 : decode bO_tap 146 = .ok (.invokevirtual 95, 3) := by decide +kernel
theorem dO_tap_149 : decode bO_tap 149 = .ok (.iload 6, 2) := by decide +kernel
theorem dO_tap_151 : decode bO_tap 151 = .ok (.aload 4, 2) := by decide +kernel
theorem dO_tap_153 : decode bO_tap 153 = .ok (.iconst 0, 1) := by decide +kernel
theorem dO_tap_154 : decode bO_tap 154 = .ok (.invokevirtual 77, 3) := by decide +kernel
theorem dO_tap_157 : decode bO_tap 157 = .ok (.invokevirtual 98, 3) := by decide +kernel
theorem dO_tap_160 : decode bO_tap 160 = .ok (.iload 6, 2) := by decide +kernel
theorem dO_tap_162 : decode bO_tap 162 = .ok (.ireturn, 1) := by decide +kernel
theorem dV_isFull_0 : decode bV_isFull 0 = .ok (.aload_n 0, 1) := by decide +kernel
theorem dV_isFull_1 : decode bV_isFull 1 = .ok (.getfield 27, 3) := by decide +kernel
theorem dV_isFull_4 : decode bV_isFull 4 = .ok (.bipush 8, 2) := by decide +kernel
theorem dV_isFull_6 : decode bV_isFull 6 = .ok (.if_icmp .lt 7, 3) := by decide +kernel
theorem dV_isFull_9 : decode bV_isFull 9 = .ok (.iconst 1, 1) := by decide +kernel
theorem dV_isFull_10 : decode bV_isFull 10 = .ok (.goto 4, 3) := by decide +kernel
theorem dV_isFull_13 : decode bV_isFull 13 = .ok (.iconst 0, 1) := by decide +kernel
theorem dV_isFull_14 : decode bV_isFull 14 = .ok (.ireturn, 1) := by decide +kernel
theorem dV_denies_0 : decode bV_denies 0 = .ok (.aload_n 0, 1) := by decide +kernel
theorem dV_denies_1 : decode bV_denies 1 = .ok (.getfield 24, 3) := by decide +kernel
theorem dV_denies_4 : decode bV_denies 4 = .ok (.iload_n 1, 1) := by decide +kernel
theorem dV_denies_5 : decode bV_denies 5 = .ok (.ishr, 1) := by decide +kernel
theorem dV_denies_6 : decode bV_denies 6 = .ok (.iconst 1, 1) := by decide +kernel
theorem dV_denies_7 : decode bV_denies 7 = .ok (.iand, 1) := by decide +kernel
theorem dV_denies_8 : decode bV_denies 8 = .ok (.iconst 1, 1) := by decide +kernel
theorem dV_denies_9 : decode bV_denies 9 = .ok (.if_icmp .ne 7, 3) := by decide +kernel
theorem dV_denies_12 : decode bV_denies 12 = .ok (.iconst 1, 1) := by decide +kernel
theorem dV_denies_13 : decode bV_denies 13 = .ok (.goto 4, 3) := by decide +kernel
theorem dV_denies_16 : decode bV_denies 16 = .ok (.iconst 0, 1) := by decide +kernel
theorem dV_denies_17 : decode bV_denies 17 = .ok (.ireturn, 1) := by decide +kernel
theorem dV_isExit_0 : decode bV_isExit 0 = .ok (.aload_n 0, 1) := by decide +kernel
theorem dV_isExit_1 : decode bV_isExit 1 = .ok (.getfield 20, 3) := by decide +kernel
theorem dV_isExit_4 : decode bV_isExit 4 = .ok (.ireturn, 1) := by decide +kernel
theorem dC_read_0 : decode bC_read 0 = .ok (.aload_n 0, 1) := by decide +kernel
theorem dC_read_1 : decode bC_read 1 = .ok (.getfield 11, 3) := by decide +kernel
theorem dC_read_4 : decode bC_read 4 = .ok (.aload_n 0, 1) := by decide +kernel
theorem dC_read_5 : decode bC_read 5 = .ok (.invokevirtual 29, 3) := by decide +kernel
theorem dC_read_8 : decode bC_read 8 = .ok (.aaload, 1) := by decide +kernel
theorem dC_read_9 : decode bC_read 9 = .ok (.iload_n 1, 1) := by decide +kernel
theorem dC_read_10 : decode bC_read 10 = .ok (.iaload, 1) := by decide +kernel
theorem dC_read_11 : decode bC_read 11 = .ok (.ireturn, 1) := by decide +kernel
theorem dC_recordCopy_0 : decode bC_recordCopy 0 = .ok (.aload_n 0, 1) := by decide +kernel
theorem dC_recordCopy_1 : decode bC_recordCopy 1 = .ok (.getfield 11, 3) := by decide +kernel
theorem dC_recordCopy_4 : decode bC_recordCopy 4 = .ok (.iconst 1, 1) := by decide +kernel
theorem dC_recordCopy_5 : decode bC_recordCopy 5 = .ok (.aaload, 1) := by decide +kernel
theorem dC_recordCopy_6 : decode bC_recordCopy 6 = .ok (.bipush 7, 2) := by decide +kernel
theorem dC_recordCopy_8 : decode bC_recordCopy 8 = .ok (.iaload, 1) := by decide +kernel
theorem dC_recordCopy_9 : decode bC_recordCopy 9 = .ok (.sipush 4096, 3) := by decide +kernel
theorem dC_recordCopy_12 : decode bC_recordCopy 12 = .ok (.idiv, 1) := by decide +kernel
theorem dC_recordCopy_13 : decode bC_recordCopy 13 = .ok (.aload_n 0, 1) := by decide +kernel
theorem dC_recordCopy_14 : decode bC_recordCopy 14 = .ok (.getfield 11, 3) := by decide +kernel
theorem dC_recordCopy_17 : decode bC_recordCopy 17 = .ok (.iconst 0, 1) := by decide +kernel
theorem dC_recordCopy_18 : decode bC_recordCopy 18 = .ok (.aaload, 1) := by decide +kernel
theorem dC_recordCopy_19 : decode bC_recordCopy 19 = .ok (.bipush 7, 2) := by decide +kernel
theorem dC_recordCopy_21 : decode bC_recordCopy 21 = .ok (.iaload, 1) := by decide +kernel
theorem dC_recordCopy_22 : decode bC_recordCopy 22 = .ok (.sipush 4096, 3) := by decide +kernel
theorem dC_recordCopy_25 : decode bC_recordCopy 25 = .ok (.idiv, 1) := by decide +kernel
theorem dC_recordCopy_26 : decode bC_recordCopy 26 = .ok (.if_icmp .le 7, 3) := by decide +kernel
theorem dC_recordCopy_29 : decode bC_recordCopy 29 = .ok (.iconst 1, 1) := by decide +kernel
theorem dC_recordCopy_30 : decode bC_recordCopy 30 = .ok (.goto 4, 3) := by decide +kernel
theorem dC_recordCopy_33 : decode bC_recordCopy 33 = .ok (.iconst 0, 1) := by decide +kernel
theorem dC_recordCopy_34 : decode bC_recordCopy 34 = .ok (.ireturn, 1) := by decide +kernel
theorem dT_least_0 : decode bT_least 0 = .ok (.aload_n 0, 1) := by decide +kernel
theorem dT_least_1 : decode bT_least 1 = .ok (.getfield 25, 3) := by decide +kernel
theorem dT_least_4 : decode bT_least 4 = .ok (.iconst 4, 1) := by decide +kernel
theorem dT_least_5 : decode bT_least 5 = .ok (.iaload, 1) := by decide +kernel
theorem dT_least_6 : decode bT_least 6 = .ok (.ireturn, 1) := by decide +kernel
