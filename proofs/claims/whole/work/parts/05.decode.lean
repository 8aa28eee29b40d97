theorem dO_topUp_0 : decode bO_topUp 0 = .ok (.iload_n 1, 1) := by decide +kernel
theorem dO_topUp_1 : decode bO_topUp 1 = .ok (.iconst 4, 1) := by decide +kernel
theorem dO_topUp_2 : decode bO_topUp 2 = .ok (.invokestatic 43, 3) := by decide +kernel
theorem dO_topUp_5 : decode bO_topUp 5 = .ok (.ifCond .eq 15, 3) := by decide +kernel
theorem dO_topUp_8 : decode bO_topUp 8 = .ok (.iload_n 2, 1) := by decide +kernel
theorem dO_topUp_9 : decode bO_topUp 9 = .ok (.iconst 1, 1) := by decide +kernel
theorem dO_topUp_10 : decode bO_topUp 10 = .ok (.if_icmp .lt 10, 3) := by decide +kernel
theorem dO_topUp_13 : decode bO_topUp 13 = .ok (.iload_n 2, 1) := by decide +kernel
theorem dO_topUp_14 : decode bO_topUp 14 = .ok (.sipush 999, 3) := by decide +kernel
theorem dO_topUp_17 : decode bO_topUp 17 = .ok (.if_icmp .le 5, 3) := by decide +kernel
theorem dO_topUp_20 : decode bO_topUp 20 = .ok (.iconst (-1), 1) := by decide +kernel
theorem dO_topUp_21 : decode bO_topUp 21 = .ok (.ireturn, 1) := by decide +kernel
theorem dO_topUp_22 : decode bO_topUp 22 = .ok (.aload_n 0, 1) := by decide +kernel
theorem dO_topUp_23 : decode bO_topUp 23 = .ok (.getfield 18, 3) := by decide +kernel
theorem dO_topUp_26 : decode bO_topUp 26 = .ok (.iload_n 1, 1) := by decide +kernel
theorem dO_topUp_27 : decode bO_topUp 27 = .ok (.aaload, 1) := by decide +kernel
theorem dO_topUp_28 : decode bO_topUp 28 = .ok (.astore_n 3, 1) := by decide +kernel
theorem dO_topUp_29 : decode bO_topUp 29 = .ok (.aload_n 3, 1) := by decide +kernel
theorem dO_topUp_30 : decode bO_topUp 30 = .ok (.iconst 0, 1) := by decide +kernel
theorem dO_topUp_31 : decode bO_topUp 31 = .ok (.invokevirtual 77, 3) := by decide +kernel
theorem dO_topUp_34 : decode bO_topUp 34 = .ok (.iload_n 2, 1) := by decide +kernel
theorem dO_topUp_35 : decode bO_topUp 35 = .ok (.iadd, 1) := by decide +kernel
theorem dO_topUp_36 : decode bO_topUp 36 = .ok (.sipush 9999, 3) := by decide +kernel
theorem dO_topUp_39 : decode bO_topUp 39 = .ok (.if_icmp .le 5, 3) := by decide +kernel
theorem dO_topUp_42 : decode bO_topUp 42 = .ok (.iconst (-1), 1) := by decide +kernel
theorem dO_topUp_43 : decode bO_topUp 43 = .ok (.ireturn, 1) := by decide +kernel
theorem dO_topUp_44 : decode bO_topUp 44 = .ok (.aload_n 3, 1) := by decide +kernel
theorem dO_topUp_45 : decode bO_topUp 45 = .ok (.iload_n 2, 1) := by decide +kernel
theorem dO_topUp_46 : decode bO_topUp 46 = .ok (.aload_n 0, 1) := by decide +kernel
theorem dO_topUp_47 : decode bO_topUp 47 = .ok (.getfield 62, 3) := by decide +kernel
theorem dO_topUp_50 : decode bO_topUp 50 = .ok (.invokevirtual 102, 3) := by decide +kernel
theorem dO_topUp_53 : decode bO_topUp 53 = .ok (.aload_n 3, 1) := by decide +kernel
theorem dO_topUp_54 : decode bO_topUp 54 = .ok (.bipush 8, 2) := by decide +kernel
theorem dO_topUp_56 : decode bO_topUp 56 = .ok (.invokevirtual 89, 3) := by decide +kernel
theorem dO_topUp_59 : decode bO_topUp 59 = .ok (.aload_n 3, 1) := by decide +kernel
theorem dO_topUp_60 : decode bO_topUp 60 = .ok (.iconst 0, 1) := by decide +kernel
theorem dO_topUp_61 : decode bO_topUp 61 = .ok (.invokevirtual 77, 3) := by decide +kernel
theorem dO_topUp_64 : decode bO_topUp 64 = .ok (.istore 4, 2) := by decide +kernel
theorem dO_topUp_66 : decode bO_topUp 66 = .ok (.aload_n 0, 1) := by decide +kernel
theorem dO_topUp_67 : decode bO_topUp 67 = .ok (.getfield 24, 3) := by decide +kernel
theorem dO_topUp_70 : decode bO_topUp 70 = .ok (.iload_n 1, 1) := by decide +kernel
theorem dO_topUp_71 : decode bO_topUp 71 = .ok (.aaload, 1) := by decide +kernel
theorem dO_topUp_72 : decode bO_topUp 72 = .ok (.aload_n 3, 1) := by decide +kernel
theorem dO_topUp_73 : decode bO_topUp 73 = .ok (.invokevirtual 95, 3) := by decide +kernel
theorem dO_topUp_76 : decode bO_topUp 76 = .ok (.iload_n 2, 1) := by decide +kernel
theorem dO_topUp_77 : decode bO_topUp 77 = .ok (.iload 4, 2) := by decide +kernel
theorem dO_topUp_79 : decode bO_topUp 79 = .ok (.invokevirtual 105, 3) := by decide +kernel
theorem dO_topUp_82 : decode bO_topUp 82 = .ok (.iload 4, 2) := by decide +kernel
theorem dO_topUp_84 : decode bO_topUp 84 = .ok (.ireturn, 1) := by decide +kernel
theorem dC_draftTopUp_0 : decode bC_draftTopUp 0 = .ok (.aload_n 0, 1) := by decide +kernel
theorem dC_draftTopUp_1 : decode bC_draftTopUp 1 = .ok (.iload_n 2, 1) := by decide +kernel
theorem dC_draftTopUp_2 : decode bC_draftTopUp 2 = .ok (.invokevirtual 37, 3) := by decide +kernel
theorem dC_draftTopUp_5 : decode bC_draftTopUp 5 = .ok (.aload_n 0, 1) := by decide +kernel
theorem dC_draftTopUp_6 : decode bC_draftTopUp 6 = .ok (.getfield 16, 3) := by decide +kernel
theorem dC_draftTopUp_9 : decode bC_draftTopUp 9 = .ok (.iconst 0, 1) := by decide +kernel
theorem dC_draftTopUp_10 : decode bC_draftTopUp 10 = .ok (.dup2, 1) := by decide +kernel
theorem dC_draftTopUp_11 : decode bC_draftTopUp 11 = .ok (.iaload, 1) := by decide +kernel
theorem dC_draftTopUp_12 : decode bC_draftTopUp 12 = .ok (.iload_n 1, 1) := by decide +kernel
theorem dC_draftTopUp_13 : decode bC_draftTopUp 13 = .ok (.iadd, 1) := by decide +kernel
theorem dC_draftTopUp_14 : decode bC_draftTopUp 14 = .ok (.iastore, 1) := by decide +kernel
theorem dC_draftTopUp_15 : decode bC_draftTopUp 15 = .ok (.return_, 1) := by decide +kernel
theorem dA_enterTopUp_0 : decode bA_enterTopUp 0 = .ok (.aload_n 0, 1) := by decide +kernel
theorem dA_enterTopUp_1 : decode bA_enterTopUp 1 = .ok (.iload_n 1, 1) := by decide +kernel
theorem dA_enterTopUp_2 : decode bA_enterTopUp 2 = .ok (.iload_n 3, 1) := by decide +kernel
theorem dA_enterTopUp_3 : decode bA_enterTopUp 3 = .ok (.iload_n 2, 1) := by decide +kernel
theorem dA_enterTopUp_4 : decode bA_enterTopUp 4 = .ok (.isub, 1) := by decide +kernel
theorem dA_enterTopUp_5 : decode bA_enterTopUp 5 = .ok (.iload_n 3, 1) := by decide +kernel
theorem dA_enterTopUp_6 : decode bA_enterTopUp 6 = .ok (.invokevirtual 35, 3) := by decide +kernel
theorem dA_enterTopUp_9 : decode bA_enterTopUp 9 = .ok (.ifCond .eq 13, 3) := by decide +kernel
theorem dA_enterTopUp_12 : decode bA_enterTopUp 12 = .ok (.aload_n 0, 1) := by decide +kernel
theorem dA_enterTopUp_13 : decode bA_enterTopUp 13 = .ok (.dup, 1) := by decide +kernel
theorem dA_enterTopUp_14 : decode bA_enterTopUp 14 = .ok (.getfield 32, 3) := by decide +kernel
theorem dA_enterTopUp_17 : decode bA_enterTopUp 17 = .ok (.iload_n 2, 1) := by decide +kernel
theorem dA_enterTopUp_18 : decode bA_enterTopUp 18 = .ok (.iadd, 1) := by decide +kernel
theorem dA_enterTopUp_19 : decode bA_enterTopUp 19 = .ok (.putfield 32, 3) := by decide +kernel
theorem dA_enterTopUp_22 : decode bA_enterTopUp 22 = .ok (.return_, 1) := by decide +kernel
theorem dA_enter_0 : decode bA_enter 0 = .ok (.iload_n 1, 1) := by decide +kernel
theorem dA_enter_1 : decode bA_enter 1 = .ok (.iconst 1, 1) := by decide +kernel
theorem dA_enter_2 : decode bA_enter 2 = .ok (.if_icmp .lt 19, 3) := by decide +kernel
theorem dA_enter_5 : decode bA_enter 5 = .ok (.iload_n 1, 1) := by decide +kernel
theorem dA_enter_6 : decode bA_enter 6 = .ok (.sipush 512, 3) := by decide +kernel
theorem dA_enter_9 : decode bA_enter 9 = .ok (.if_icmp .gt 12, 3) := by decide +kernel
theorem dA_enter_12 : decode bA_enter 12 = .ok (.aload_n 0, 1) := by decide +kernel
theorem dA_enter_13 : decode bA_enter 13 = .ok (.getfield 9, 3) := by decide +kernel
theorem dA_enter_16 : decode bA_enter 16 = .ok (.iload_n 1, 1) := by decide +kernel
theorem dA_enter_17 : decode bA_enter 17 = .ok (.baload, 1) := by decide +kernel
theorem dA_enter_18 : decode bA_enter 18 = .ok (.ifCond .eq 5, 3) := by decide +kernel
theorem dA_enter_21 : decode bA_enter 21 = .ok (.iconst 0, 1) := by decide +kernel
theorem dA_enter_22 : decode bA_enter 22 = .ok (.ireturn, 1) := by decide +kernel
theorem dA_enter_23 : decode bA_enter 23 = .ok (.aload_n 0, 1) := by decide +kernel
theorem dA_enter_24 : decode bA_enter 24 = .ok (.getfield 9, 3) := by decide +kernel
theorem dA_enter_27 : decode bA_enter 27 = .ok (.iload_n 1, 1) := by decide +kernel
theorem dA_enter_28 : decode bA_enter 28 = .ok (.iconst 1, 1) := by decide +kernel
theorem dA_enter_29 : decode bA_enter 29 = .ok (.bastore, 1) := by decide +kernel
theorem dA_enter_30 : decode bA_enter 30 = .ok (.aload_n 0, 1) := by decide +kernel
theorem dA_enter_31 : decode bA_enter 31 = .ok (.getfield 15, 3) := by decide +kernel
theorem dA_enter_34 : decode bA_enter 34 = .ok (.iload_n 1, 1) := by decide +kernel
theorem dA_enter_35 : decode bA_enter 35 = .ok (.iload_n 2, 1) := by decide +kernel
theorem dA_enter_36 : decode bA_enter 36 = .ok (.iastore, 1) := by decide +kernel
theorem dA_enter_37 : decode bA_enter 37 = .ok (.aload_n 0, 1) := by decide +kernel
theorem dA_enter_38 : decode bA_enter 38 = .ok (.getfield 19, 3) := by decide +kernel
theorem dA_enter_41 : decode bA_enter 41 = .ok (.iload_n 1, 1) := by decide +kernel
theorem dA_enter_42 : decode bA_enter 42 = .ok (.iload_n 3, 1) := by decide +kernel
theorem dA_enter_43 : decode bA_enter 43 = .ok (.iastore, 1) := by decide +kernel
theorem dA_enter_44 : decode bA_enter 44 = .ok (.aload_n 0, 1) := by decide +kernel
theorem dA_enter_45 : decode bA_enter 45 = .ok (.dup, 1) := by decide +kernel
theorem dA_enter_46 : decode bA_enter 46 = .ok (.getfield 22, 3) := by decide +kernel
theorem dA_enter_49 : decode bA_enter 49 = .ok (.iconst 1, 1) := by decide +kernel
theorem dA_enter_50 : decode bA_enter 50 = .ok (.iadd, 1) := by decide +kernel
theorem dA_enter_51 : decode bA_enter 51 = .ok (.putfield 22, 3) := by decide +kernel
theorem dA_enter_54 : decode bA_enter 54 = .ok (.aload_n 0, 1) := by decide +kernel
theorem dA_enter_55 : decode bA_enter 55 = .ok (.aload_n 0, 1) := by decide +kernel
theorem dA_enter_56 : decode bA_enter 56 = .ok (.getfield 26, 3) := by decide +kernel
theorem dA_enter_59 : decode bA_enter 59 = .ok (.iload_n 1, 1) := by decide +kernel
theorem dA_enter_60 : decode bA_enter 60 = .ok (.invokestatic 39, 3) := by decide +kernel
theorem dA_enter_63 : decode bA_enter 63 = .ok (.putfield 26, 3) := by decide +kernel
theorem dA_enter_66 : decode bA_enter 66 = .ok (.iconst 1, 1) := by decide +kernel
theorem dA_enter_67 : decode bA_enter 67 = .ok (.ireturn, 1) := by decide +kernel
theorem dO_upload_0 : decode bO_upload 0 = .ok (.iload_n 1, 1) := by decide +kernel
theorem dO_upload_1 : decode bO_upload 1 = .ok (.iconst 4, 1) := by decide +kernel
theorem dO_upload_2 : decode bO_upload 2 = .ok (.invokestatic 43, 3) := by decide +kernel
theorem dO_upload_5 : decode bO_upload 5 = .ok (.ifCond .ne 5, 3) := by decide +kernel
theorem dO_upload_8 : decode bO_upload 8 = .ok (.iconst (-1), 1) := by decide +kernel
theorem dO_upload_9 : decode bO_upload 9 = .ok (.ireturn, 1) := by decide +kernel
theorem dO_upload_10 : decode bO_upload 10 = .ok (.iload_n 2, 1) := by decide +kernel
theorem dO_upload_11 : decode bO_upload 11 = .ok (.ifCond .eq 5, 3) := by decide +kernel
theorem dO_upload_14 : decode bO_upload 14 = .ok (.iconst 0, 1) := by decide +kernel
theorem dO_upload_15 : decode bO_upload 15 = .ok (.ireturn, 1) := by decide +kernel
theorem dO_upload_16 : decode bO_upload 16 = .ok (.aload_n 0, 1) := by decide +kernel
theorem dO_upload_17 : decode bO_upload 17 = .ok (.getfield 30, 3) := by decide +kernel
theorem dO_upload_20 : decode bO_upload 20 = .ok (.iload_n 1, 1) := by decide +kernel
theorem dO_upload_21 : decode bO_upload 21 = .ok (.aaload, 1) := by decide +kernel
theorem dO_upload_22 : decode bO_upload 22 = .ok (.astore_n 3, 1) := by decide +kernel
theorem dO_upload_23 : decode bO_upload 23 = .ok (.aload_n 3, 1) := by decide +kernel
theorem dO_upload_24 : decode bO_upload 24 = .ok (.invokevirtual 108, 3) := by decide +kernel
theorem dO_upload_27 : decode bO_upload 27 = .ok (.istore 4, 2) := by decide +kernel
theorem dO_upload_29 : decode bO_upload 29 = .ok (.iconst 0, 1) := by decide +kernel
theorem dO_upload_30 : decode bO_upload 30 = .ok (.istore 5, 2) := by decide +kernel
theorem dO_upload_32 : decode bO_upload 32 = .ok (.iload 5, 2) := by decide +kernel
theorem dO_upload_34 : decode bO_upload 34 = .ok (.iload 4, 2) := by decide +kernel
theorem dO_upload_36 : decode bO_upload 36 = .ok (.if_icmp .ge 16, 3) := by decide +kernel
theorem dO_upload_39 : decode bO_upload 39 = .ok (.aload_n 0, 1) := by decide +kernel
theorem dO_upload_40 : decode bO_upload 40 = .ok (.iload_n 1, 1) := by decide +kernel
theorem dO_upload_41 : decode bO_upload 41 = .ok (.iload 5, 2) := by decide +kernel
theorem dO_upload_43 : decode bO_upload 43 = .ok (.invokevirtual 111, 3) := by decide +kernel
theorem dO_upload_46 : decode bO_upload 46 = .ok (.iinc 5 1, 3) := by decide +kernel
theorem dO_upload_49 : decode bO_upload 49 = .ok (.goto (-17), 3) := by decide +kernel
theorem dO_upload_52 : decode bO_upload 52 = .ok (.aload_n 3, 1) := by decide +kernel
theorem dO_upload_53 : decode bO_upload 53 = .ok (.invokevirtual 114, 3) := by decide +kernel
theorem dO_upload_56 : decode bO_upload 56 = .ok (.aload_n 3, 1) := by decide +kernel
theorem dO_upload_57 : decode bO_upload 57 = .ok (.aload_n 0, 1) := by decide +kernel
theorem dO_upload_58 : decode bO_upload 58 = .ok (.getfield 117, 3) := by decide +kernel
theorem dO_upload_61 : decode bO_upload 61 = .ok (.invokevirtual 120, 3) := by decide +kernel
theorem dO_upload_64 : decode bO_upload 64 = .ok (.iload 4, 2) := by decide +kernel
theorem dO_upload_66 : decode bO_upload 66 = .ok (.ireturn, 1) := by decide +kernel
theorem dV_logSize_0 : decode bV_logSize 0 = .ok (.aload_n 0, 1) := by decide +kernel
theorem dV_logSize_1 : decode bV_logSize 1 = .ok (.getfield 27, 3) := by decide +kernel
theorem dV_logSize_4 : decode bV_logSize 4 = .ok (.ireturn, 1) := by decide +kernel
theorem dO_receiveEntry_0 : decode bO_receiveEntry 0 = .ok (.aload_n 0, 1) := by decide +kernel
theorem dO_receiveEntry_1 : decode bO_receiveEntry 1 = .ok (.getfield 30, 3) := by decide +kernel
theorem dO_receiveEntry_4 : decode bO_receiveEntry 4 = .ok (.iload_n 1, 1) := by decide +kernel
theorem dO_receiveEntry_5 : decode bO_receiveEntry 5 = .ok (.aaload, 1) := by decide +kernel
theorem dO_receiveEntry_6 : decode bO_receiveEntry 6 = .ok (.astore_n 3, 1) := by decide +kernel
theorem dO_receiveEntry_7 : decode bO_receiveEntry 7 = .ok (.aload_n 3, 1) := by decide +kernel
theorem dO_receiveEntry_8 : decode bO_receiveEntry 8 = .ok (.iload_n 2, 1) := by decide +kernel
theorem dO_receiveEntry_9 : decode bO_receiveEntry 9 = .ok (.iconst 0, 1) := by decide +kernel
theorem dO_receiveEntry_10 : decode bO_receiveEntry 10 = .ok (.invokevirtual 130, 3) := by decide +kernel
theorem dO_receiveEntry_13 : decode bO_receiveEntry 13 = .ok (.istore 4, 2) := by decide +kernel
theorem dO_receiveEntry_15 : decode bO_receiveEntry 15 = .ok (.iload 4, 2) := by decide +kernel
theorem dO_receiveEntry_17 : decode bO_receiveEntry 17 = .ok (.iconst 4, 1) := by decide +kernel
theorem dO_receiveEntry_18 : decode bO_receiveEntry 18 = .ok (.invokestatic 43, 3) := by decide +kernel
theorem dO_receiveEntry_21 : decode bO_receiveEntry 21 = .ok (.ifCond .ne 4, 3) := by decide +kernel
theorem dO_receiveEntry_24 : decode bO_receiveEntry 24 = .ok (.return_, 1) := by decide +kernel
theorem dO_receiveEntry_25 : decode bO_receiveEntry 25 = .ok (.aload_n 3, 1) := by decide +kernel
theorem dO_receiveEntry_26 : decode bO_receiveEntry 26 = .ok (.iload_n 2, 1) := by decide +kernel
theorem dO_receiveEntry_27 : decode bO_receiveEntry 27 = .ok (.iconst 2, 1) := by decide +kernel
theorem dO_receiveEntry_28 : decode bO_receiveEntry 28 = .ok (.invokevirtual 130, 3) := by decide +kernel
theorem dO_receiveEntry_31 : decode bO_receiveEntry 31 = .ok (.istore 5, 2) := by decide +kernel
theorem dO_receiveEntry_33 : decode bO_receiveEntry 33 = .ok (.aload_n 0, 1) := by decide +kernel
theorem dO_receiveEntry_34 : decode bO_receiveEntry 34 = .ok (.getfield 24, 3) := by decide +kernel
theorem dO_receiveEntry_37 : decode bO_receiveEntry 37 = .ok (.iload 4, 2) := by decide +kernel
theorem dO_receiveEntry_39 : decode bO_receiveEntry 39 = .ok (.aaload, 1) := by decide +kernel
theorem dO_receiveEntry_40 : decode bO_receiveEntry 40 = .ok (.aload_n 3, 1) := by decide +kernel
theorem dO_receiveEntry_41 : decode bO_receiveEntry 41 = .ok (.iload_n 2, 1) := by decide +kernel
theorem dO_receiveEntry_42 : decode bO_receiveEntry 42 = .ok (.iconst 1, 1) := by decide +kernel
theorem dO_receiveEntry_43 : decode bO_receiveEntry 43 = .ok (.invokevirtual 130, 3) := by decide +kernel
theorem dO_receiveEntry_46 : decode bO_receiveEntry 46 = .ok (.iload 5, 2) := by decide +kernel
theorem dO_receiveEntry_48 : decode bO_receiveEntry 48 = .ok (.aload_n 3, 1) := by decide +kernel
theorem dO_receiveEntry_49 : decode bO_receiveEntry 49 = .ok (.iload_n 2, 1) := by decide +kernel
theorem dO_receiveEntry_50 : decode bO_receiveEntry 50 = .ok (.iconst 3, 1) := by decide +kernel
theorem dO_receiveEntry_51 : decode bO_receiveEntry 51 = .ok (.invokevirtual 130, 3) := by decide +kernel
theorem dO_receiveEntry_54 : decode bO_receiveEntry 54 = .ok (.invokevirtual 159, 3) := by decide +kernel
theorem dO_receiveEntry_57 : decode bO_receiveEntry 57 = .ok (.aload_n 0, 1) := by decide +kernel
theorem dO_receiveEntry_58 : decode bO_receiveEntry 58 = .ok (.getfield 34, 3) := by decide +kernel
theorem dO_receiveEntry_61 : decode bO_receiveEntry 61 = .ok (.iload_n 1, 1) := by decide +kernel
theorem dO_receiveEntry_62 : decode bO_receiveEntry 62 = .ok (.dup2, 1) := by decide +kernel
theorem dO_receiveEntry_63 : decode bO_receiveEntry 63 = .ok (.iaload, 1) := by decide +kernel
theorem dO_receiveEntry_64 : decode bO_receiveEntry 64 = .ok (.iload 5, 2) := by decide +kernel
theorem dO_receiveEntry_66 : decode bO_receiveEntry 66 = .ok (.iadd, 1) := by decide +kernel
theorem dO_receiveEntry_67 : decode bO_receiveEntry 67 = .ok (.iastore, 1) := by decide +kernel
theorem dO_receiveEntry_68 : decode bO_receiveEntry 68 = .ok (.return_, 1) := by decide +kernel
theorem dV_readEntry_0 : decode bV_readEntry 0 = .ok (.aload_n 0, 1) := by decide +kernel
theorem dV_readEntry_1 : decode bV_readEntry 1 = .ok (.getfield 11, 3) := by decide +kernel
theorem dV_readEntry_4 : decode bV_readEntry 4 = .ok (.iload_n 1, 1) := by decide +kernel
theorem dV_readEntry_5 : decode bV_readEntry 5 = .ok (.aaload, 1) := by decide +kernel
theorem dV_readEntry_6 : decode bV_readEntry 6 = .ok (.iload_n 2, 1) := by decide +kernel
theorem dV_readEntry_7 : decode bV_readEntry 7 = .ok (.iaload, 1) := by decide +kernel
theorem dV_readEntry_8 : decode bV_readEntry 8 = .ok (.ireturn, 1) := by decide +kernel
theorem dA_enterCharge_0 : decode bA_enterCharge 0 = .ok (.aload_n 0, 1) := by decide +kernel
theorem dA_enterCharge_1 : decode bA_enterCharge 1 = .ok (.iload_n 1, 1) := by decide +kernel
theorem dA_enterCharge_2 : decode bA_enterCharge 2 = .ok (.iload_n 3, 1) := by decide +kernel
theorem dA_enterCharge_3 : decode bA_enterCharge 3 = .ok (.iload_n 2, 1) := by decide +kernel
theorem dA_enterCharge_4 : decode bA_enterCharge 4 = .ok (.iadd, 1) := by decide +kernel
theorem dA_enterCharge_5 : decode bA_enterCharge 5 = .ok (.iload_n 3, 1) := by decide +kernel
theorem dA_enterCharge_6 : decode bA_enterCharge 6 = .ok (.invokevirtual 35, 3) := by decide +kernel
theorem dA_enterCharge_9 : decode bA_enterCharge 9 = .ok (.ifCond .eq 13, 3) := by decide +kernel
theorem dA_enterCharge_12 : decode bA_enterCharge 12 = .ok (.aload_n 0, 1) := by decide +kernel
theorem dA_enterCharge_13 : decode bA_enterCharge 13 = .ok (.dup, 1) := by decide +kernel
theorem dA_enterCharge_14 : decode bA_enterCharge 14 = .ok (.getfield 29, 3) := by decide +kernel
theorem dA_enterCharge_17 : decode bA_enterCharge 17 = .ok (.iload_n 2, 1) := by decide +kernel
theorem dA_enterCharge_18 : decode bA_enterCharge 18 = .ok (.iadd, 1) := by decide +kernel
theorem dA_enterCharge_19 : decode bA_enterCharge 19 = .ok (.putfield 29, 3) := by decide +kernel
theorem dA_enterCharge_22 : decode bA_enterCharge 22 = .ok (.return_, 1) := by decide +kernel
theorem dV_emptyLog_0 : decode bV_emptyLog 0 = .ok (.aload_n 0, 1) := by decide +kernel
theorem dV_emptyLog_1 : decode bV_emptyLog 1 = .ok (.iconst 0, 1) := by decide +kernel
theorem dV_emptyLog_2 : decode bV_emptyLog 2 = .ok (.putfield 27, 3) := by decide +kernel
theorem dV_emptyLog_5 : decode bV_emptyLog 5 = .ok (.return_, 1) := by decide +kernel
theorem dV_takeDenied_0 : decode bV_takeDenied 0 = .ok (.aload_n 0, 1) := by decide +kernel
theorem dV_takeDenied_1 : decode bV_takeDenied 1 = .ok (.iload_n 1, 1) := by decide +kernel
theorem dV_takeDenied_2 : decode bV_takeDenied 2 = .ok (.putfield 24, 3) := by decide +kernel
theorem dV_takeDenied_5 : decode bV_takeDenied 5 = .ok (.return_, 1) := by decide +kernel
theorem dO_deny_0 : decode bO_deny 0 = .ok (.iload_n 1, 1) := by decide +kernel
theorem dO_deny_1 : decode bO_deny 1 = .ok (.iconst 4, 1) := by decide +kernel
theorem dO_deny_2 : decode bO_deny 2 = .ok (.invokestatic 43, 3) := by decide +kernel
theorem dO_deny_5 : decode bO_deny 5 = .ok (.ifCond .ne 5, 3) := by decide +kernel
theorem dO_deny_8 : decode bO_deny 8 = .ok (.iconst (-1), 1) := by decide +kernel
theorem dO_deny_9 : decode bO_deny 9 = .ok (.ireturn, 1) := by decide +kernel
theorem dO_deny_10 : decode bO_deny 10 = .ok (.aload_n 0, 1) := by decide +kernel
theorem dO_deny_11 : decode bO_deny 11 = .ok (.iload_n 2, 1) := by decide +kernel
theorem dO_deny_12 : decode bO_deny 12 = .ok (.ifCond .eq 14, 3) := by decide +kernel
theorem dO_deny_15 : decode bO_deny 15 = .ok (.aload_n 0, 1) := by decide +kernel
theorem dO_deny_16 : decode bO_deny 16 = .ok (.getfield 117, 3) := by decide +kernel
theorem dO_deny_19 : decode bO_deny 19 = .ok (.iconst 1, 1) := by decide +kernel
theorem dO_deny_20 : decode bO_deny 20 = .ok (.iload_n 1, 1) := by decide +kernel
theorem dO_deny_21 : decode bO_deny 21 = .ok (.ishl, 1) := by decide +kernel
theorem dO_deny_22 : decode bO_deny 22 = .ok (.ior, 1) := by decide +kernel
theorem dO_deny_23 : decode bO_deny 23 = .ok (.goto 13, 3) := by decide +kernel
theorem dO_deny_26 : decode bO_deny 26 = .ok (.aload_n 0, 1) := by decide +kernel
theorem dO_deny_27 : decode bO_deny 27 = .ok (.getfield 117, 3) := by decide +kernel
theorem dO_deny_30 : decode bO_deny 30 = .ok (.iconst 1, 1) := by decide +kernel
theorem dO_deny_31 : decode bO_deny 31 = .ok (.iload_n 1, 1) := by decide +kernel
theorem dO_deny_32 : decode bO_deny 32 = .ok (.ishl, 1) := by decide +kernel
theorem dO_deny_33 : decode bO_deny 33 = .ok (.iconst (-1), 1) := by decide +kernel
theorem dO_deny_34 : decode bO_deny 34 = .ok (.ixor, 1) := by decide +kernel
theorem dO_deny_35 : decode bO_deny 35 = .ok (.iand, 1) := by decide +kernel
theorem dO_deny_36 : decode bO_deny 36 = .ok (.putfield 117, 3) := by decide +kernel
theorem dO_deny_39 : decode bO_deny 39 = .ok (.iconst 0, 1) := by decide +kernel
theorem dO_deny_40 : decode bO_deny 40 = .ok (.ireturn, 1) := by decide +kernel
theorem dO_word_0 : decode bO_word 0 = .ok (.iload_n 1, 1) := by decide +kernel
theorem dO_word_1 : decode bO_word 1 = .ok (.iconst 4, 1) := by decide +kernel
theorem dO_word_2 : decode bO_word 2 = .ok (.invokestatic 43, 3) := by decide +kernel
theorem dO_word_5 : decode bO_word 5 = .ok (.ifCond .eq 20, 3) := by decide +kernel
theorem dO_word_8 : decode bO_word 8 = .ok (.iload_n 2, 1) := by decide +kernel
theorem dO_word_9 : decode bO_word 9 = .ok (.iconst 2, 1) := by decide +kernel
theorem dO_word_10 : decode bO_word 10 = .ok (.invokestatic 43, 3) := by decide +kernel
theorem dO_word_13 : decode bO_word 13 = .ok (.ifCond .eq 12, 3) := by decide +kernel
theorem dO_word_16 : decode bO_word 16 = .ok (.iload_n 3, 1) := by decide +kernel
theorem dO_word_17 : decode bO_word 17 = .ok (.bipush 8, 2) := by decide +kernel
theorem dO_word_19 : decode bO_word 19 = .ok (.invokestatic 43, 3) := by decide +kernel
theorem dO_word_22 : decode bO_word 22 = .ok (.ifCond .ne 5, 3) := by decide +kernel
theorem dO_word_25 : decode bO_word 25 = .ok (.iconst (-1), 1) := by decide +kernel
theorem dO_word_26 : decode bO_word 26 = .ok (.ireturn, 1) := by decide +kernel
theorem dO_word_27 : decode bO_word 27 = .ok (.aload_n 0, 1) := by decide +kernel
theorem dO_word_28 : decode bO_word 28 = .ok (.getfield 18, 3) := by decide +kernel
theorem dO_word_31 : decode bO_word 31 = .ok (.iload_n 1, 1) := by decide +kernel
theorem dO_word_32 : decode bO_word 32 = .ok (.aaload, 1) := by decide +kernel
theorem dO_word_33 : decode bO_word 33 = .ok (.iload_n 2, 1) := by decide +kernel
theorem dO_word_34 : decode bO_word 34 = .ok (.iload_n 3, 1) := by decide +kernel
theorem dO_word_35 : decode bO_word 35 = .ok (.invokevirtual 123, 3) := by decide +kernel
theorem dO_word_38 : decode bO_word 38 = .ok (.ireturn, 1) := by decide +kernel
theorem dC_readCopy_0 : decode bC_readCopy 0 = .ok (.aload_n 0, 1) := by decide +kernel
theorem dC_readCopy_1 : decode bC_readCopy 1 = .ok (.getfield 11, 3) := by decide +kernel
theorem dC_readCopy_4 : decode bC_readCopy 4 = .ok (.iload_n 1, 1) := by decide +kernel
theorem dC_readCopy_5 : decode bC_readCopy 5 = .ok (.aaload, 1) := by decide +kernel
theorem dC_readCopy_6 : decode bC_readCopy 6 = .ok (.iload_n 2, 1) := by decide +kernel
theorem dC_readCopy_7 : decode bC_readCopy 7 = .ok (.iaload, 1) := by decide +kernel
theorem dC_readCopy_8 : decode bC_readCopy 8 = .ok (.ireturn, 1) := by decide +kernel
theorem dO_card_0 : decode bO_card 0 = .ok (.iload_n 1, 1) := by decide +kernel
theorem dO_card_1 : decode bO_card 1 = .ok (.iconst 4, 1) := by decide +kernel
theorem dO_card_2 : decode bO_card 2 = .ok (.invokestatic 43, 3) := by decide +kernel
theorem dO_card_5 : decode bO_card 5 = .ok (.ifCond .ne 5, 3) := by decide +kernel
theorem dO_card_8 : decode bO_card 8 = .ok (.iconst (-1), 1) := by decide +kernel
theorem dO_card_9 : decode bO_card 9 = .ok (.ireturn, 1) := by decide +kernel
theorem dO_card_10 : decode bO_card 10 = .ok (.aload_n 0, 1) := by decide +kernel
theorem dO_card_11 : decode bO_card 11 = .ok (.getfield 18, 3) := by decide +kernel
theorem dO_card_14 : decode bO_card 14 = .ok (.iload_n 1, 1) := by decide +kernel
theorem dO_card_15 : decode bO_card 15 = .ok (.aaload, 1) := by decide +kernel
theorem dO_card_16 : decode bO_card 16 = .ok (.astore_n 3, 1) := by decide +kernel
theorem dO_card_17 : decode bO_card 17 = .ok (.iload_n 2, 1) := by decide +kernel
theorem dO_card_18 : decode bO_card 18 = .ok (.tableswitch 100 0 7 #[46, 52, 58, 64, 70, 76, 82, 87], 46) := by decide +kernel
theorem dO_card_64 : decode bO_card 64 = .ok (.aload_n 3, 1) := by decide +kernel
theorem dO_card_65 : decode bO_card 65 = .ok (.iconst 0, 1) := by decide +kernel
theorem dO_card_66 : decode bO_card 66 = .ok (.invokevirtual 77, 3) := by decide +kernel
theorem dO_card_69 : decode bO_card 69 = .ok (.ireturn, 1) := by decide +kernel
theorem dO_card_70 : decode bO_card 70 = .ok (.aload_n 3, 1) := by decide +kernel
theorem dO_card_71 : decode bO_card 71 = .ok (.iconst 1, 1) := by decide +kernel
theorem dO_card_72 : decode bO_card 72 = .ok (.invokevirtual 77, 3) := by decide +kernel
theorem dO_card_75 : decode bO_card 75 = .ok (.ireturn, 1) := by decide +kernel
theorem dO_card_76 : decode bO_card 76 = .ok (.aload_n 3, 1) := by decide +kernel
theorem dO_card_77 : decode bO_card 77 = .ok (.iconst 2, 1) := by decide +kernel
theorem dO_card_78 : decode bO_card 78 = .ok (.invokevirtual 77, 3) := by decide +kernel
theorem dO_card_81 : decode bO_card 81 = .ok (.ireturn, 1) := by decide +kernel
theorem dO_card_82 : decode bO_card 82 = .ok (.aload_n 3, 1) := by decide +kernel
theorem dO_card_83 : decode bO_card 83 = .ok (.iconst 3, 1) := by decide +kernel
theorem dO_card_84 : decode bO_card 84 = .ok (.invokevirtual 77, 3) := by decide +kernel
theorem dO_card_87 : decode bO_card 87 = .ok (.ireturn, 1) := by decide +kernel
theorem dO_card_88 : decode bO_card 88 = .ok (.aload_n 3, 1) := by decide +kernel
theorem dO_card_89 : decode bO_card 89 = .ok (.iconst 4, 1) := by decide +kernel
theorem dO_card_90 : decode bO_card 90 = .ok (.invokevirtual 77, 3) := by decide +kernel
theorem dO_card_93 : decode bO_card 93 = .ok (.ireturn, 1) := by decide +kernel
theorem dO_card_94 : decode bO_card 94 = .ok (.aload_n 3, 1) := by decide +kernel
theorem dO_card_95 : decode bO_card 95 = .ok (.iconst 5, 1) := by decide +kernel
theorem dO_card_96 : decode bO_card 96 = .ok (.invokevirtual 77, 3) := by decide +kernel
theorem dO_card_99 : decode bO_card 99 = .ok (.ireturn, 1) := by decide +kernel
theorem dO_card_100 : decode bO_card 100 = .ok (.aload_n 3, 1) := by decide +kernel
theorem dO_card_101 : decode bO_card 101 = .ok (.invokevirtual 95, 3) := by decide +kernel
theorem dO_card_104 : decode bO_card 104 = .ok (.ireturn, 1) := by decide +kernel
theorem dO_card_105 : decode bO_card 105 = .ok (.aload_n 3, 1) := by decide +kernel
theorem dO_card_106 : decode bO_card 106 = .ok (.aload_n 0, 1) := by decide +kernel
theorem dO_card_107 : decode bO_card 107 = .ok (.getfield 62, 3) := by decide +kernel
theorem dO_card_110 : decode bO_card 110 = .ok (.sipush 1440, 3) := by decide +kernel
theorem dO_card_113 : decode bO_card 113 = .ok (.idiv, 1) := by decide +kernel
theorem dO_card_114 : decode bO_card 114 = .ok (.invokevirtual 127, 3) := by decide +kernel
theorem dO_card_117 : decode bO_card 117 = .ok (.ireturn, 1) := by decide +kernel
theorem dO_card_118 : decode bO_card 118 = .ok (.iconst (-1), 1) := by decide +kernel
theorem dO_card_119 : decode bO_card 119 = .ok (.ireturn, 1) := by decide +kernel
theorem dO_logged_0 : decode bO_logged 0 = .ok (.iload_n 1, 1) := by decide +kernel
theorem dO_logged_1 : decode bO_logged 1 = .ok (.iconst 4, 1) := by decide +kernel
theorem dO_logged_2 : decode bO_logged 2 = .ok (.invokestatic 43, 3) := by decide +kernel
theorem dO_logged_5 : decode bO_logged 5 = .ok (.ifCond .eq 11, 3) := by decide +kernel
theorem dO_logged_8 : decode bO_logged 8 = .ok (.iload_n 3, 1) := by decide +kernel
theorem dO_logged_9 : decode bO_logged 9 = .ok (.iconst 4, 1) := by decide +kernel
theorem dO_logged_10 : decode bO_logged 10 = .ok (.invokestatic 43, 3) := by decide +kernel
theorem dO_logged_13 : decode bO_logged 13 = .ok (.ifCond .ne 5, 3) := by decide +kernel
theorem dO_logged_16 : decode bO_logged 16 = .ok (.iconst (-1), 1) := by decide +kernel
theorem dO_logged_17 : decode bO_logged 17 = .ok (.ireturn, 1) := by decide +kernel
theorem dO_logged_18 : decode bO_logged 18 = .ok (.aload_n 0, 1) := by decide +kernel
theorem dO_logged_19 : decode bO_logged 19 = .ok (.getfield 30, 3) := by decide +kernel
theorem dO_logged_22 : decode bO_logged 22 = .ok (.iload_n 1, 1) := by decide +kernel
theorem dO_logged_23 : decode bO_logged 23 = .ok (.aaload, 1) := by decide +kernel
theorem dO_logged_24 : decode bO_logged 24 = .ok (.astore 4, 2) := by decide +kernel
theorem dO_logged_26 : decode bO_logged 26 = .ok (.iload_n 2, 1) := by decide +kernel
theorem dO_logged_27 : decode bO_logged 27 = .ok (.aload 4, 2) := by decide +kernel
theorem dO_logged_29 : decode bO_logged 29 = .ok (.invokevirtual 108, 3) := by decide +kernel
theorem dO_logged_32 : decode bO_logged 32 = .ok (.invokestatic 43, 3) := by decide +kernel
theorem dO_logged_35 : decode bO_logged 35 = .ok (.ifCond .eq 13, 3) := by decide +kernel
theorem dO_logged_38 : decode bO_logged 38 = .ok (.aload 4, 2) := by decide +kernel
theorem dO_logged_40 : decode bO_logged 40 = .ok (.iload_n 2, 1) := by decide +kernel
theorem dO_logged_41 : decode bO_logged 41 = .ok (.iload_n 3, 1) := by decide +kernel
theorem dO_logged_42 : decode bO_logged 42 = .ok (.invokevirtual 130, 3) := by decide +kernel
theorem dO_logged_45 : decode bO_logged 45 = .ok (.goto 4, 3) := by decide +kernel
theorem dO_logged_48 : decode bO_logged 48 = .ok (.iconst (-1), 1) := by decide +kernel
theorem dO_logged_49 : decode bO_logged 49 = .ok (.ireturn, 1) := by decide +kernel
theorem dO_office_0 : decode bO_office 0 = .ok (.iload_n 1, 1) := by decide +kernel
theorem dO_office_1 : decode bO_office 1 = .ok (.iconst 4, 1) := by decide +kernel
theorem dO_office_2 : decode bO_office 2 = .ok (.invokestatic 43, 3) := by decide +kernel
theorem dO_office_5 : decode bO_office 5 = .ok (.ifCond .ne 5, 3) := by decide +kernel
theorem dO_office_8 : decode bO_office 8 = .ok (.iconst (-1), 1) := by decide +kernel
theorem dO_office_9 : decode bO_office 9 = .ok (.ireturn, 1) := by decide +kernel
theorem dO_office_10 : decode bO_office 10 = .ok (.aload_n 0, 1) := by decide +kernel
theorem dO_office_11 : decode bO_office 11 = .ok (.getfield 24, 3) := by decide +kernel
theorem dO_office_14 : decode bO_office 14 = .ok (.iload_n 1, 1) := by decide +kernel
theorem dO_office_15 : decode bO_office 15 = .ok (.aaload, 1) := by decide +kernel
theorem dO_office_16 : decode bO_office 16 = .ok (.astore_n 3, 1) := by decide +kernel
theorem dO_office_17 : decode bO_office 17 = .ok (.iload_n 2, 1) := by decide +kernel
theorem dO_office_18 : decode bO_office 18 = .ok (.tableswitch 68 0 5 #[38, 43, 48, 53, 58, 63], 38) := by decide +kernel
theorem dO_office_56 : decode bO_office 56 = .ok (.aload_n 3, 1) := by decide +kernel
theorem dO_office_57 : decode bO_office 57 = .ok (.invokevirtual 133, 3) := by decide +kernel
theorem dO_office_60 : decode bO_office 60 = .ok (.ireturn, 1) := by decide +kernel
theorem dO_office_61 : decode bO_office 61 = .ok (.aload_n 3, 1) := by decide +kernel
theorem dO_office_62 : decode bO_office 62 = .ok (.invokevirtual 136, 3) := by decide +kernel
theorem dO_office_65 : decode bO_office 65 = .ok (.ireturn, 1) := by decide +kernel
theorem dO_office_66 : decode bO_office 66 = .ok (.aload_n 3, 1) := by decide +kernel
theorem dO_office_67 : decode bO_office 67 = .ok (.invokevirtual 139, 3) := by decide +kernel
theorem dO_office_70 : decode bO_office 70 = .ok (.ireturn, 1) := by decide +kernel
theorem dO_office_71 : decode bO_office 71 = .ok (.aload_n 3, 1) := by decide +kernel
theorem dO_office_72 : decode bO_office 72 = .ok (.invokevirtual 142, 3) := by decide +kernel
theorem dO_office_75 : decode bO_office 75 = .ok (.ireturn, 1) := by decide +kernel
theorem dO_office_76 : decode bO_office 76 = .ok (.aload_n 3, 1) := by decide +kernel
theorem dO_office_77 : decode bO_office 77 = .ok (.invokevirtual 145, 3) := by decide +kernel
theorem dO_office_80 : decode bO_office 80 = .ok (.ireturn, 1) := by decide +kernel
theorem dO_office_81 : decode bO_office 81 = .ok (.aload_n 3, 1) := by decide +kernel
theorem dO_office_82 : decode bO_office 82 = .ok (.invokevirtual 148, 3) := by decide +kernel
theorem dO_office_85 : decode bO_office 85 = .ok (.ireturn, 1) := by decide +kernel
theorem dO_office_86 : decode bO_office 86 = .ok (.iconst (-1), 1) := by decide +kernel
theorem dO_office_87 : decode bO_office 87 = .ok (.ireturn, 1) := by decide +kernel
theorem dA_known_0 : decode bA_known 0 = .ok (.aload_n 0, 1) := by decide +kernel
theorem dA_known_1 : decode bA_known 1 = .ok (.getfield 22, 3) := by decide +kernel
theorem dA_known_4 : decode bA_known 4 = .ok (.ireturn, 1) := by decide +kernel
theorem dA_greatestCounter_0 : decode bA_greatestCounter 0 = .ok (.aload_n 0, 1) := by decide +kernel
theorem dA_greatestCounter_1 : decode bA_greatestCounter 1 = .ok (.getfield 26, 3) := by decide +kernel
theorem dA_greatestCounter_4 : decode bA_greatestCounter 4 = .ok (.ireturn, 1) := by decide +kernel
theorem dA_missing_0 : decode bA_missing 0 = .ok (.aload_n 0, 1) := by decide +kernel
theorem dA_missing_1 : decode bA_missing 1 = .ok (.getfield 26, 3) := by decide +kernel
theorem dA_missing_4 : decode bA_missing 4 = .ok (.aload_n 0, 1) := by decide +kernel
theorem dA_missing_5 : decode bA_missing 5 = .ok (.getfield 22, 3) := by decide +kernel
theorem dA_missing_8 : decode bA_missing 8 = .ok (.isub, 1) := by decide +kernel
theorem dA_missing_9 : decode bA_missing 9 = .ok (.ireturn, 1) := by decide +kernel
