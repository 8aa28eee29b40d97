theorem dM_card_0 : decode bM_card 0 = .ok (.iload_n 1, 1) := by decide +kernel
theorem dM_card_1 : decode bM_card 1 = .ok (.iconst 0, 1) := by decide +kernel
theorem dM_card_2 : decode bM_card 2 = .ok (.iconst 3, 1) := by decide +kernel
theorem dM_card_3 : decode bM_card 3 = .ok (.invokestatic 53, 3) := by decide +kernel
theorem dM_card_6 : decode bM_card 6 = .ok (.ifCond .eq 13, 3) := by decide +kernel
theorem dM_card_9 : decode bM_card 9 = .ok (.iload_n 2, 1) := by decide +kernel
theorem dM_card_10 : decode bM_card 10 = .ok (.iconst 0, 1) := by decide +kernel
theorem dM_card_11 : decode bM_card 11 = .ok (.bipush 7, 2) := by decide +kernel
theorem dM_card_13 : decode bM_card 13 = .ok (.invokestatic 53, 3) := by decide +kernel
theorem dM_card_16 : decode bM_card 16 = .ok (.ifCond .ne 5, 3) := by decide +kernel
theorem dM_card_19 : decode bM_card 19 = .ok (.iconst (-1), 1) := by decide +kernel
theorem dM_card_20 : decode bM_card 20 = .ok (.ireturn, 1) := by decide +kernel
theorem dM_card_21 : decode bM_card 21 = .ok (.iload_n 2, 1) := by decide +kernel
theorem dM_card_22 : decode bM_card 22 = .ok (.bipush 6, 2) := by decide +kernel
theorem dM_card_24 : decode bM_card 24 = .ok (.if_icmp .ne 11, 3) := by decide +kernel
theorem dM_card_27 : decode bM_card 27 = .ok (.aload_n 0, 1) := by decide +kernel
theorem dM_card_28 : decode bM_card 28 = .ok (.iload_n 1, 1) := by decide +kernel
theorem dM_card_29 : decode bM_card 29 = .ok (.invokevirtual 68, 3) := by decide +kernel
theorem dM_card_32 : decode bM_card 32 = .ok (.goto 29, 3) := by decide +kernel
theorem dM_card_35 : decode bM_card 35 = .ok (.iload_n 2, 1) := by decide +kernel
theorem dM_card_36 : decode bM_card 36 = .ok (.bipush 7, 2) := by decide +kernel
theorem dM_card_38 : decode bM_card 38 = .ok (.if_icmp .ne 11, 3) := by decide +kernel
theorem dM_card_41 : decode bM_card 41 = .ok (.aload_n 0, 1) := by decide +kernel
theorem dM_card_42 : decode bM_card 42 = .ok (.iload_n 1, 1) := by decide +kernel
theorem dM_card_43 : decode bM_card 43 = .ok (.invokevirtual 65, 3) := by decide +kernel
theorem dM_card_46 : decode bM_card 46 = .ok (.goto 15, 3) := by decide +kernel
theorem dM_card_49 : decode bM_card 49 = .ok (.aload_n 0, 1) := by decide +kernel
theorem dM_card_50 : decode bM_card 50 = .ok (.getfield 16, 3) := by decide +kernel
theorem dM_card_53 : decode bM_card 53 = .ok (.aload_n 0, 1) := by decide +kernel
theorem dM_card_54 : decode bM_card 54 = .ok (.iload_n 1, 1) := by decide +kernel
theorem dM_card_55 : decode bM_card 55 = .ok (.invokevirtual 61, 3) := by decide +kernel
theorem dM_card_58 : decode bM_card 58 = .ok (.iload_n 2, 1) := by decide +kernel
theorem dM_card_59 : decode bM_card 59 = .ok (.iadd, 1) := by decide +kernel
theorem dM_card_60 : decode bM_card 60 = .ok (.iaload, 1) := by decide +kernel
theorem dM_card_61 : decode bM_card 61 = .ok (.ireturn, 1) := by decide +kernel
theorem dM_logged_0 : decode bM_logged 0 = .ok (.iload_n 1, 1) := by decide +kernel
theorem dM_logged_1 : decode bM_logged 1 = .ok (.iconst 0, 1) := by decide +kernel
theorem dM_logged_2 : decode bM_logged 2 = .ok (.iconst 3, 1) := by decide +kernel
theorem dM_logged_3 : decode bM_logged 3 = .ok (.invokestatic 53, 3) := by decide +kernel
theorem dM_logged_6 : decode bM_logged 6 = .ok (.ifCond .eq 44, 3) := by decide +kernel
theorem dM_logged_9 : decode bM_logged 9 = .ok (.iload_n 2, 1) := by decide +kernel
theorem dM_logged_10 : decode bM_logged 10 = .ok (.ifCond .lt 40, 3) := by decide +kernel
theorem dM_logged_13 : decode bM_logged 13 = .ok (.iload_n 2, 1) := by decide +kernel
theorem dM_logged_14 : decode bM_logged 14 = .ok (.aload_n 0, 1) := by decide +kernel
theorem dM_logged_15 : decode bM_logged 15 = .ok (.getfield 32, 3) := by decide +kernel
theorem dM_logged_18 : decode bM_logged 18 = .ok (.iload_n 1, 1) := by decide +kernel
theorem dM_logged_19 : decode bM_logged 19 = .ok (.iaload, 1) := by decide +kernel
theorem dM_logged_20 : decode bM_logged 20 = .ok (.if_icmp .ge 30, 3) := by decide +kernel
theorem dM_logged_23 : decode bM_logged 23 = .ok (.iload_n 3, 1) := by decide +kernel
theorem dM_logged_24 : decode bM_logged 24 = .ok (.iconst 0, 1) := by decide +kernel
theorem dM_logged_25 : decode bM_logged 25 = .ok (.iconst 3, 1) := by decide +kernel
theorem dM_logged_26 : decode bM_logged 26 = .ok (.invokestatic 53, 3) := by decide +kernel
theorem dM_logged_29 : decode bM_logged 29 = .ok (.ifCond .eq 21, 3) := by decide +kernel
theorem dM_logged_32 : decode bM_logged 32 = .ok (.aload_n 0, 1) := by decide +kernel
theorem dM_logged_33 : decode bM_logged 33 = .ok (.getfield 29, 3) := by decide +kernel
theorem dM_logged_36 : decode bM_logged 36 = .ok (.bipush 32, 2) := by decide +kernel
theorem dM_logged_38 : decode bM_logged 38 = .ok (.iload_n 1, 1) := by decide +kernel
theorem dM_logged_39 : decode bM_logged 39 = .ok (.imul, 1) := by decide +kernel
theorem dM_logged_40 : decode bM_logged 40 = .ok (.iconst 4, 1) := by decide +kernel
theorem dM_logged_41 : decode bM_logged 41 = .ok (.iload_n 2, 1) := by decide +kernel
theorem dM_logged_42 : decode bM_logged 42 = .ok (.imul, 1) := by decide +kernel
theorem dM_logged_43 : decode bM_logged 43 = .ok (.iadd, 1) := by decide +kernel
theorem dM_logged_44 : decode bM_logged 44 = .ok (.iload_n 3, 1) := by decide +kernel
theorem dM_logged_45 : decode bM_logged 45 = .ok (.iadd, 1) := by decide +kernel
theorem dM_logged_46 : decode bM_logged 46 = .ok (.iaload, 1) := by decide +kernel
theorem dM_logged_47 : decode bM_logged 47 = .ok (.goto 4, 3) := by decide +kernel
theorem dM_logged_50 : decode bM_logged 50 = .ok (.iconst (-1), 1) := by decide +kernel
theorem dM_logged_51 : decode bM_logged 51 = .ok (.ireturn, 1) := by decide +kernel
theorem dM_office_0 : decode bM_office 0 = .ok (.iload_n 1, 1) := by decide +kernel
theorem dM_office_1 : decode bM_office 1 = .ok (.iconst 0, 1) := by decide +kernel
theorem dM_office_2 : decode bM_office 2 = .ok (.iconst 3, 1) := by decide +kernel
theorem dM_office_3 : decode bM_office 3 = .ok (.invokestatic 53, 3) := by decide +kernel
theorem dM_office_6 : decode bM_office 6 = .ok (.ifCond .ne 5, 3) := by decide +kernel
theorem dM_office_9 : decode bM_office 9 = .ok (.iconst (-1), 1) := by decide +kernel
theorem dM_office_10 : decode bM_office 10 = .ok (.ireturn, 1) := by decide +kernel
theorem dM_office_11 : decode bM_office 11 = .ok (.iload_n 2, 1) := by decide +kernel
theorem dM_office_12 : decode bM_office 12 = .ok (.tableswitch 84 0 5 #[40, 46, 52, 64, 70, 77], 40) := by decide +kernel
theorem dM_office_52 : decode bM_office 52 = .ok (.aload_n 0, 1) := by decide +kernel
theorem dM_office_53 : decode bM_office 53 = .ok (.iload_n 1, 1) := by decide +kernel
theorem dM_office_54 : decode bM_office 54 = .ok (.invokevirtual 102, 3) := by decide +kernel
theorem dM_office_57 : decode bM_office 57 = .ok (.ireturn, 1) := by decide +kernel
theorem dM_office_58 : decode bM_office 58 = .ok (.aload_n 0, 1) := by decide +kernel
theorem dM_office_59 : decode bM_office 59 = .ok (.iload_n 1, 1) := by decide +kernel
theorem dM_office_60 : decode bM_office 60 = .ok (.invokevirtual 105, 3) := by decide +kernel
theorem dM_office_63 : decode bM_office 63 = .ok (.ireturn, 1) := by decide +kernel
theorem dM_office_64 : decode bM_office 64 = .ok (.aload_n 0, 1) := by decide +kernel
theorem dM_office_65 : decode bM_office 65 = .ok (.iload_n 1, 1) := by decide +kernel
theorem dM_office_66 : decode bM_office 66 = .ok (.invokevirtual 105, 3) := by decide +kernel
theorem dM_office_69 : decode bM_office 69 = .ok (.aload_n 0, 1) := by decide +kernel
theorem dM_office_70 : decode bM_office 70 = .ok (.iload_n 1, 1) := by decide +kernel
theorem dM_office_71 : decode bM_office 71 = .ok (.invokevirtual 102, 3) := by decide +kernel
theorem dM_office_74 : decode bM_office 74 = .ok (.isub, 1) := by decide +kernel
theorem dM_office_75 : decode bM_office 75 = .ok (.ireturn, 1) := by decide +kernel
theorem dM_office_76 : decode bM_office 76 = .ok (.aload_n 0, 1) := by decide +kernel
theorem dM_office_77 : decode bM_office 77 = .ok (.iload_n 1, 1) := by decide +kernel
theorem dM_office_78 : decode bM_office 78 = .ok (.invokevirtual 108, 3) := by decide +kernel
theorem dM_office_81 : decode bM_office 81 = .ok (.ireturn, 1) := by decide +kernel
theorem dM_office_82 : decode bM_office 82 = .ok (.aload_n 0, 1) := by decide +kernel
theorem dM_office_83 : decode bM_office 83 = .ok (.iload_n 1, 1) := by decide +kernel
theorem dM_office_84 : decode bM_office 84 = .ok (.iconst 1, 1) := by decide +kernel
theorem dM_office_85 : decode bM_office 85 = .ok (.invokevirtual 111, 3) := by decide +kernel
theorem dM_office_88 : decode bM_office 88 = .ok (.ireturn, 1) := by decide +kernel
theorem dM_office_89 : decode bM_office 89 = .ok (.aload_n 0, 1) := by decide +kernel
theorem dM_office_90 : decode bM_office 90 = .ok (.iload_n 1, 1) := by decide +kernel
theorem dM_office_91 : decode bM_office 91 = .ok (.iconst 2, 1) := by decide +kernel
theorem dM_office_92 : decode bM_office 92 = .ok (.invokevirtual 111, 3) := by decide +kernel
theorem dM_office_95 : decode bM_office 95 = .ok (.ireturn, 1) := by decide +kernel
theorem dM_office_96 : decode bM_office 96 = .ok (.iconst (-1), 1) := by decide +kernel
theorem dM_office_97 : decode bM_office 97 = .ok (.ireturn, 1) := by decide +kernel
theorem dM_known_0 : decode bM_known 0 = .ok (.iconst 0, 1) := by decide +kernel
theorem dM_known_1 : decode bM_known 1 = .ok (.istore_n 2, 1) := by decide +kernel
theorem dM_known_2 : decode bM_known 2 = .ok (.iconst 0, 1) := by decide +kernel
theorem dM_known_3 : decode bM_known 3 = .ok (.istore_n 3, 1) := by decide +kernel
theorem dM_known_4 : decode bM_known 4 = .ok (.iload_n 3, 1) := by decide +kernel
theorem dM_known_5 : decode bM_known 5 = .ok (.sipush 520, 3) := by decide +kernel
theorem dM_known_8 : decode bM_known 8 = .ok (.if_icmp .ge 27, 3) := by decide +kernel
theorem dM_known_11 : decode bM_known 11 = .ok (.aload_n 0, 1) := by decide +kernel
theorem dM_known_12 : decode bM_known 12 = .ok (.getfield 44, 3) := by decide +kernel
theorem dM_known_15 : decode bM_known 15 = .ok (.sipush 520, 3) := by decide +kernel
theorem dM_known_18 : decode bM_known 18 = .ok (.iload_n 1, 1) := by decide +kernel
theorem dM_known_19 : decode bM_known 19 = .ok (.imul, 1) := by decide +kernel
theorem dM_known_20 : decode bM_known 20 = .ok (.iload_n 3, 1) := by decide +kernel
theorem dM_known_21 : decode bM_known 21 = .ok (.iadd, 1) := by decide +kernel
theorem dM_known_22 : decode bM_known 22 = .ok (.iaload, 1) := by decide +kernel
theorem dM_known_23 : decode bM_known 23 = .ok (.ifCond .le 6, 3) := by decide +kernel
theorem dM_known_26 : decode bM_known 26 = .ok (.iinc 2 1, 3) := by decide +kernel
theorem dM_known_29 : decode bM_known 29 = .ok (.iinc 3 1, 3) := by decide +kernel
theorem dM_known_32 : decode bM_known 32 = .ok (.goto (-28), 3) := by decide +kernel
theorem dM_known_35 : decode bM_known 35 = .ok (.iload_n 2, 1) := by decide +kernel
theorem dM_known_36 : decode bM_known 36 = .ok (.ireturn, 1) := by decide +kernel
theorem dM_greatest_0 : decode bM_greatest 0 = .ok (.iconst 0, 1) := by decide +kernel
theorem dM_greatest_1 : decode bM_greatest 1 = .ok (.istore_n 2, 1) := by decide +kernel
theorem dM_greatest_2 : decode bM_greatest 2 = .ok (.iconst 0, 1) := by decide +kernel
theorem dM_greatest_3 : decode bM_greatest 3 = .ok (.istore_n 3, 1) := by decide +kernel
theorem dM_greatest_4 : decode bM_greatest 4 = .ok (.iload_n 3, 1) := by decide +kernel
theorem dM_greatest_5 : decode bM_greatest 5 = .ok (.sipush 520, 3) := by decide +kernel
theorem dM_greatest_8 : decode bM_greatest 8 = .ok (.if_icmp .ge 26, 3) := by decide +kernel
theorem dM_greatest_11 : decode bM_greatest 11 = .ok (.aload_n 0, 1) := by decide +kernel
theorem dM_greatest_12 : decode bM_greatest 12 = .ok (.getfield 44, 3) := by decide +kernel
theorem dM_greatest_15 : decode bM_greatest 15 = .ok (.sipush 520, 3) := by decide +kernel
theorem dM_greatest_18 : decode bM_greatest 18 = .ok (.iload_n 1, 1) := by decide +kernel
theorem dM_greatest_19 : decode bM_greatest 19 = .ok (.imul, 1) := by decide +kernel
theorem dM_greatest_20 : decode bM_greatest 20 = .ok (.iload_n 3, 1) := by decide +kernel
theorem dM_greatest_21 : decode bM_greatest 21 = .ok (.iadd, 1) := by decide +kernel
theorem dM_greatest_22 : decode bM_greatest 22 = .ok (.iaload, 1) := by decide +kernel
theorem dM_greatest_23 : decode bM_greatest 23 = .ok (.ifCond .le 5, 3) := by decide +kernel
theorem dM_greatest_26 : decode bM_greatest 26 = .ok (.iload_n 3, 1) := by decide +kernel
theorem dM_greatest_27 : decode bM_greatest 27 = .ok (.istore_n 2, 1) := by decide +kernel
theorem dM_greatest_28 : decode bM_greatest 28 = .ok (.iinc 3 1, 3) := by decide +kernel
theorem dM_greatest_31 : decode bM_greatest 31 = .ok (.goto (-27), 3) := by decide +kernel
theorem dM_greatest_34 : decode bM_greatest 34 = .ok (.iload_n 2, 1) := by decide +kernel
theorem dM_greatest_35 : decode bM_greatest 35 = .ok (.ireturn, 1) := by decide +kernel
theorem dM_lost_0 : decode bM_lost 0 = .ok (.iconst 0, 1) := by decide +kernel
theorem dM_lost_1 : decode bM_lost 1 = .ok (.istore_n 2, 1) := by decide +kernel
theorem dM_lost_2 : decode bM_lost 2 = .ok (.iconst 0, 1) := by decide +kernel
theorem dM_lost_3 : decode bM_lost 3 = .ok (.istore_n 3, 1) := by decide +kernel
theorem dM_lost_4 : decode bM_lost 4 = .ok (.iconst 0, 1) := by decide +kernel
theorem dM_lost_5 : decode bM_lost 5 = .ok (.istore 4, 2) := by decide +kernel
theorem dM_lost_7 : decode bM_lost 7 = .ok (.iconst 1, 1) := by decide +kernel
theorem dM_lost_8 : decode bM_lost 8 = .ok (.istore 5, 2) := by decide +kernel
theorem dM_lost_10 : decode bM_lost 10 = .ok (.iload 5, 2) := by decide +kernel
theorem dM_lost_12 : decode bM_lost 12 = .ok (.sipush 520, 3) := by decide +kernel
theorem dM_lost_15 : decode bM_lost 15 = .ok (.if_icmp .ge 106, 3) := by decide +kernel
theorem dM_lost_18 : decode bM_lost 18 = .ok (.sipush 520, 3) := by decide +kernel
theorem dM_lost_21 : decode bM_lost 21 = .ok (.iload_n 1, 1) := by decide +kernel
theorem dM_lost_22 : decode bM_lost 22 = .ok (.imul, 1) := by decide +kernel
theorem dM_lost_23 : decode bM_lost 23 = .ok (.iload 5, 2) := by decide +kernel
theorem dM_lost_25 : decode bM_lost 25 = .ok (.iadd, 1) := by decide +kernel
theorem dM_lost_26 : decode bM_lost 26 = .ok (.istore 6, 2) := by decide +kernel
theorem dM_lost_28 : decode bM_lost 28 = .ok (.aload_n 0, 1) := by decide +kernel
theorem dM_lost_29 : decode bM_lost 29 = .ok (.getfield 44, 3) := by decide +kernel
theorem dM_lost_32 : decode bM_lost 32 = .ok (.iload 6, 2) := by decide +kernel
theorem dM_lost_34 : decode bM_lost 34 = .ok (.iaload, 1) := by decide +kernel
theorem dM_lost_35 : decode bM_lost 35 = .ok (.ifCond .ne 6, 3) := by decide +kernel
theorem dM_lost_38 : decode bM_lost 38 = .ok (.goto 77, 3) := by decide +kernel
theorem dM_lost_41 : decode bM_lost 41 = .ok (.aload_n 0, 1) := by decide +kernel
theorem dM_lost_42 : decode bM_lost 42 = .ok (.getfield 44, 3) := by decide +kernel
theorem dM_lost_45 : decode bM_lost 45 = .ok (.iload 6, 2) := by decide +kernel
theorem dM_lost_47 : decode bM_lost 47 = .ok (.iaload, 1) := by decide +kernel
theorem dM_lost_48 : decode bM_lost 48 = .ok (.iconst 1, 1) := by decide +kernel
theorem dM_lost_49 : decode bM_lost 49 = .ok (.if_icmp .ne 21, 3) := by decide +kernel
theorem dM_lost_52 : decode bM_lost 52 = .ok (.aload_n 0, 1) := by decide +kernel
theorem dM_lost_53 : decode bM_lost 53 = .ok (.getfield 50, 3) := by decide +kernel
theorem dM_lost_56 : decode bM_lost 56 = .ok (.iload 6, 2) := by decide +kernel
theorem dM_lost_58 : decode bM_lost 58 = .ok (.iaload, 1) := by decide +kernel
theorem dM_lost_59 : decode bM_lost 59 = .ok (.aload_n 0, 1) := by decide +kernel
theorem dM_lost_60 : decode bM_lost 60 = .ok (.getfield 47, 3) := by decide +kernel
theorem dM_lost_63 : decode bM_lost 63 = .ok (.iload 6, 2) := by decide +kernel
theorem dM_lost_65 : decode bM_lost 65 = .ok (.iaload, 1) := by decide +kernel
theorem dM_lost_66 : decode bM_lost 66 = .ok (.iadd, 1) := by decide +kernel
theorem dM_lost_67 : decode bM_lost 67 = .ok (.goto 18, 3) := by decide +kernel
theorem dM_lost_70 : decode bM_lost 70 = .ok (.aload_n 0, 1) := by decide +kernel
theorem dM_lost_71 : decode bM_lost 71 = .ok (.getfield 50, 3) := by decide +kernel
theorem dM_lost_74 : decode bM_lost 74 = .ok (.iload 6, 2) := by decide +kernel
theorem dM_lost_76 : decode bM_lost 76 = .ok (.iaload, 1) := by decide +kernel
theorem dM_lost_77 : decode bM_lost 77 = .ok (.aload_n 0, 1) := by decide +kernel
theorem dM_lost_78 : decode bM_lost 78 = .ok (.getfield 47, 3) := by decide +kernel
theorem dM_lost_81 : decode bM_lost 81 = .ok (.iload 6, 2) := by decide +kernel
theorem dM_lost_83 : decode bM_lost 83 = .ok (.iaload, 1) := by decide +kernel
theorem dM_lost_84 : decode bM_lost 84 = .ok (.isub, 1) := by decide +kernel
theorem dM_lost_85 : decode bM_lost 85 = .ok (.istore 7, 2) := by decide +kernel
theorem dM_lost_87 : decode bM_lost 87 = .ok (.iload 5, 2) := by decide +kernel
theorem dM_lost_89 : decode bM_lost 89 = .ok (.iload_n 3, 1) := by decide +kernel
theorem dM_lost_90 : decode bM_lost 90 = .ok (.iconst 1, 1) := by decide +kernel
theorem dM_lost_91 : decode bM_lost 91 = .ok (.iadd, 1) := by decide +kernel
theorem dM_lost_92 : decode bM_lost 92 = .ok (.if_icmp .eq 11, 3) := by decide +kernel
theorem dM_lost_95 : decode bM_lost 95 = .ok (.iload_n 2, 1) := by decide +kernel
theorem dM_lost_96 : decode bM_lost 96 = .ok (.iload 4, 2) := by decide +kernel
theorem dM_lost_98 : decode bM_lost 98 = .ok (.iload 7, 2) := by decide +kernel
theorem dM_lost_100 : decode bM_lost 100 = .ok (.isub, 1) := by decide +kernel
theorem dM_lost_101 : decode bM_lost 101 = .ok (.iadd, 1) := by decide +kernel
theorem dM_lost_102 : decode bM_lost 102 = .ok (.istore_n 2, 1) := by decide +kernel
theorem dM_lost_103 : decode bM_lost 103 = .ok (.iload 5, 2) := by decide +kernel
theorem dM_lost_105 : decode bM_lost 105 = .ok (.istore_n 3, 1) := by decide +kernel
theorem dM_lost_106 : decode bM_lost 106 = .ok (.aload_n 0, 1) := by decide +kernel
theorem dM_lost_107 : decode bM_lost 107 = .ok (.getfield 50, 3) := by decide +kernel
theorem dM_lost_110 : decode bM_lost 110 = .ok (.iload 6, 2) := by decide +kernel
theorem dM_lost_112 : decode bM_lost 112 = .ok (.iaload, 1) := by decide +kernel
theorem dM_lost_113 : decode bM_lost 113 = .ok (.istore 4, 2) := by decide +kernel
theorem dM_lost_115 : decode bM_lost 115 = .ok (.iinc 5 1, 3) := by decide +kernel
theorem dM_lost_118 : decode bM_lost 118 = .ok (.goto (-108), 3) := by decide +kernel
theorem dM_lost_121 : decode bM_lost 121 = .ok (.iload_n 2, 1) := by decide +kernel
theorem dM_lost_122 : decode bM_lost 122 = .ok (.ireturn, 1) := by decide +kernel
theorem dM_sum_0 : decode bM_sum 0 = .ok (.iconst 0, 1) := by decide +kernel
theorem dM_sum_1 : decode bM_sum 1 = .ok (.istore_n 3, 1) := by decide +kernel
theorem dM_sum_2 : decode bM_sum 2 = .ok (.iconst 0, 1) := by decide +kernel
theorem dM_sum_3 : decode bM_sum 3 = .ok (.istore 4, 2) := by decide +kernel
theorem dM_sum_5 : decode bM_sum 5 = .ok (.iload 4, 2) := by decide +kernel
theorem dM_sum_7 : decode bM_sum 7 = .ok (.sipush 520, 3) := by decide +kernel
theorem dM_sum_10 : decode bM_sum 10 = .ok (.if_icmp .ge 42, 3) := by decide +kernel
theorem dM_sum_13 : decode bM_sum 13 = .ok (.aload_n 0, 1) := by decide +kernel
theorem dM_sum_14 : decode bM_sum 14 = .ok (.getfield 44, 3) := by decide +kernel
theorem dM_sum_17 : decode bM_sum 17 = .ok (.sipush 520, 3) := by decide +kernel
theorem dM_sum_20 : decode bM_sum 20 = .ok (.iload_n 1, 1) := by decide +kernel
theorem dM_sum_21 : decode bM_sum 21 = .ok (.imul, 1) := by decide +kernel
theorem dM_sum_22 : decode bM_sum 22 = .ok (.iload 4, 2) := by decide +kernel
theorem dM_sum_24 : decode bM_sum 24 = .ok (.iadd, 1) := by decide +kernel
theorem dM_sum_25 : decode bM_sum 25 = .ok (.iaload, 1) := by decide +kernel
theorem dM_sum_26 : decode bM_sum 26 = .ok (.iload_n 2, 1) := by decide +kernel
theorem dM_sum_27 : decode bM_sum 27 = .ok (.if_icmp .ne 19, 3) := by decide +kernel
theorem dM_sum_30 : decode bM_sum 30 = .ok (.iload_n 3, 1) := by decide +kernel
theorem dM_sum_31 : decode bM_sum 31 = .ok (.aload_n 0, 1) := by decide +kernel
theorem dM_sum_32 : decode bM_sum 32 = .ok (.getfield 47, 3) := by decide +kernel
theorem dM_sum_35 : decode bM_sum 35 = .ok (.sipush 520, 3) := by decide +kernel
theorem dM_sum_38 : decode bM_sum 38 = .ok (.iload_n 1, 1) := by decide +kernel
theorem dM_sum_39 : decode bM_sum 39 = .ok (.imul, 1) := by decide +kernel
theorem dM_sum_40 : decode bM_sum 40 = .ok (.iload 4, 2) := by decide +kernel
theorem dM_sum_42 : decode bM_sum 42 = .ok (.iadd, 1) := by decide +kernel
theorem dM_sum_43 : decode bM_sum 43 = .ok (.iaload, 1) := by decide +kernel
theorem dM_sum_44 : decode bM_sum 44 = .ok (.iadd, 1) := by decide +kernel
theorem dM_sum_45 : decode bM_sum 45 = .ok (.istore_n 3, 1) := by decide +kernel
theorem dM_sum_46 : decode bM_sum 46 = .ok (.iinc 4 1, 3) := by decide +kernel
theorem dM_sum_49 : decode bM_sum 49 = .ok (.goto (-44), 3) := by decide +kernel
theorem dM_sum_52 : decode bM_sum 52 = .ok (.iload_n 3, 1) := by decide +kernel
theorem dM_sum_53 : decode bM_sum 53 = .ok (.ireturn, 1) := by decide +kernel
theorem dM_income_0 : decode bM_income 0 = .ok (.iload_n 1, 1) := by decide +kernel
theorem dM_income_1 : decode bM_income 1 = .ok (.iconst 0, 1) := by decide +kernel
theorem dM_income_2 : decode bM_income 2 = .ok (.iconst 3, 1) := by decide +kernel
theorem dM_income_3 : decode bM_income 3 = .ok (.invokestatic 53, 3) := by decide +kernel
theorem dM_income_6 : decode bM_income 6 = .ok (.ifCond .eq 12, 3) := by decide +kernel
theorem dM_income_9 : decode bM_income 9 = .ok (.aload_n 0, 1) := by decide +kernel
theorem dM_income_10 : decode bM_income 10 = .ok (.getfield 41, 3) := by decide +kernel
theorem dM_income_13 : decode bM_income 13 = .ok (.iload_n 1, 1) := by decide +kernel
theorem dM_income_14 : decode bM_income 14 = .ok (.iaload, 1) := by decide +kernel
theorem dM_income_15 : decode bM_income 15 = .ok (.goto 4, 3) := by decide +kernel
theorem dM_income_18 : decode bM_income 18 = .ok (.iconst (-1), 1) := by decide +kernel
theorem dM_income_19 : decode bM_income 19 = .ok (.ireturn, 1) := by decide +kernel
theorem dM_count_0 : decode bM_count 0 = .ok (.iconst 0, 1) := by decide +kernel
theorem dM_count_1 : decode bM_count 1 = .ok (.istore_n 2, 1) := by decide +kernel
theorem dM_count_2 : decode bM_count 2 = .ok (.iconst 0, 1) := by decide +kernel
theorem dM_count_3 : decode bM_count 3 = .ok (.istore_n 3, 1) := by decide +kernel
theorem dM_count_4 : decode bM_count 4 = .ok (.iconst 0, 1) := by decide +kernel
theorem dM_count_5 : decode bM_count 5 = .ok (.istore 4, 2) := by decide +kernel
theorem dM_count_7 : decode bM_count 7 = .ok (.iload 4, 2) := by decide +kernel
theorem dM_count_9 : decode bM_count 9 = .ok (.iconst 4, 1) := by decide +kernel
theorem dM_count_10 : decode bM_count 10 = .ok (.if_icmp .ge 32, 3) := by decide +kernel
theorem dM_count_13 : decode bM_count 13 = .ok (.iload_n 2, 1) := by decide +kernel
theorem dM_count_14 : decode bM_count 14 = .ok (.aload_n 0, 1) := by decide +kernel
theorem dM_count_15 : decode bM_count 15 = .ok (.getfield 32, 3) := by decide +kernel
theorem dM_count_18 : decode bM_count 18 = .ok (.iload 4, 2) := by decide +kernel
theorem dM_count_20 : decode bM_count 20 = .ok (.iaload, 1) := by decide +kernel
theorem dM_count_21 : decode bM_count 21 = .ok (.iadd, 1) := by decide +kernel
theorem dM_count_22 : decode bM_count 22 = .ok (.istore_n 2, 1) := by decide +kernel
theorem dM_count_23 : decode bM_count 23 = .ok (.aload_n 0, 1) := by decide +kernel
theorem dM_count_24 : decode bM_count 24 = .ok (.getfield 38, 3) := by decide +kernel
theorem dM_count_27 : decode bM_count 27 = .ok (.iload 4, 2) := by decide +kernel
theorem dM_count_29 : decode bM_count 29 = .ok (.baload, 1) := by decide +kernel
theorem dM_count_30 : decode bM_count 30 = .ok (.ifCond .eq 6, 3) := by decide +kernel
theorem dM_count_33 : decode bM_count 33 = .ok (.iinc 3 1, 3) := by decide +kernel
theorem dM_count_36 : decode bM_count 36 = .ok (.iinc 4 1, 3) := by decide +kernel
theorem dM_count_39 : decode bM_count 39 = .ok (.goto (-32), 3) := by decide +kernel
theorem dM_count_42 : decode bM_count 42 = .ok (.iload_n 1, 1) := by decide +kernel
theorem dM_count_43 : decode bM_count 43 = .ok (.ifCond .ne 10, 3) := by decide +kernel
theorem dM_count_46 : decode bM_count 46 = .ok (.aload_n 0, 1) := by decide +kernel
theorem dM_count_47 : decode bM_count 47 = .ok (.getfield 57, 3) := by decide +kernel
theorem dM_count_50 : decode bM_count 50 = .ok (.goto 34, 3) := by decide +kernel
theorem dM_count_53 : decode bM_count 53 = .ok (.iload_n 1, 1) := by decide +kernel
theorem dM_count_54 : decode bM_count 54 = .ok (.iconst 1, 1) := by decide +kernel
theorem dM_count_55 : decode bM_count 55 = .ok (.if_icmp .ne 7, 3) := by decide +kernel
theorem dM_count_58 : decode bM_count 58 = .ok (.iload_n 2, 1) := by decide +kernel
theorem dM_count_59 : decode bM_count 59 = .ok (.goto 25, 3) := by decide +kernel
theorem dM_count_62 : decode bM_count 62 = .ok (.iload_n 1, 1) := by decide +kernel
theorem dM_count_63 : decode bM_count 63 = .ok (.iconst 2, 1) := by decide +kernel
theorem dM_count_64 : decode bM_count 64 = .ok (.if_icmp .ne 10, 3) := by decide +kernel
theorem dM_count_67 : decode bM_count 67 = .ok (.aload_n 0, 1) := by decide +kernel
theorem dM_count_68 : decode bM_count 68 = .ok (.getfield 86, 3) := by decide +kernel
theorem dM_count_71 : decode bM_count 71 = .ok (.goto 13, 3) := by decide +kernel
theorem dM_count_74 : decode bM_count 74 = .ok (.iload_n 1, 1) := by decide +kernel
theorem dM_count_75 : decode bM_count 75 = .ok (.iconst 3, 1) := by decide +kernel
theorem dM_count_76 : decode bM_count 76 = .ok (.if_icmp .ne 7, 3) := by decide +kernel
theorem dM_count_79 : decode bM_count 79 = .ok (.iload_n 3, 1) := by decide +kernel
theorem dM_count_80 : decode bM_count 80 = .ok (.goto 4, 3) := by decide +kernel
theorem dM_count_83 : decode bM_count 83 = .ok (.iconst (-1), 1) := by decide +kernel
theorem dM_count_84 : decode bM_count 84 = .ok (.ireturn, 1) := by decide +kernel
