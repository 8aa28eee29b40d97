theorem dl_0 : decode code 0 = .ok (.new 7, 3) := by decide +kernel
theorem dl_3 : decode code 3 = .ok (.dup, 1) := by decide +kernel
theorem dl_4 : decode code 4 = .ok (.invokespecial 9, 3) := by decide +kernel
theorem dl_7 : decode code 7 = .ok (.astore_n 1, 1) := by decide +kernel
theorem dl_8 : decode code 8 = .ok (.new 10, 3) := by decide +kernel
theorem dl_11 : decode code 11 = .ok (.dup, 1) := by decide +kernel
theorem dl_12 : decode code 12 = .ok (.invokespecial 12, 3) := by decide +kernel
theorem dl_15 : decode code 15 = .ok (.astore_n 2, 1) := by decide +kernel
theorem dl_16 : decode code 16 = .ok (.iconst 0, 1) := by decide +kernel
theorem dl_17 : decode code 17 = .ok (.istore_n 3, 1) := by decide +kernel
theorem dl_18 : decode code 18 = .ok (.iload_n 3, 1) := by decide +kernel
theorem dl_19 : decode code 19 = .ok (.aload_n 0, 1) := by decide +kernel
theorem dl_20 : decode code 20 = .ok (.arraylength, 1) := by decide +kernel
theorem dl_21 : decode code 21 = .ok (.iconst 4, 1) := by decide +kernel
theorem dl_22 : decode code 22 = .ok (.isub, 1) := by decide +kernel
theorem dl_23 : decode code 23 = .ok (.if_icmp .gt 617, 3) := by decide +kernel
theorem dl_26 : decode code 26 = .ok (.aload_n 0, 1) := by decide +kernel
theorem dl_27 : decode code 27 = .ok (.iload_n 3, 1) := by decide +kernel
theorem dl_28 : decode code 28 = .ok (.iaload, 1) := by decide +kernel
theorem dl_29 : decode code 29 = .ok (.bipush 15, 2) := by decide +kernel
theorem dl_31 : decode code 31 = .ok (.iand, 1) := by decide +kernel
theorem dl_32 : decode code 32 = .ok (.tableswitch 602 0 13 #[72, 115, 148, 207, 230, 273, 306, 355, 404, 447, 480, 523, 556, 579], 72) := by decide +kernel
theorem dl_104 : decode code 104 = .ok (.aload_n 1, 1) := by decide +kernel
theorem dl_105 : decode code 105 = .ok (.aload_n 0, 1) := by decide +kernel
theorem dl_106 : decode code 106 = .ok (.iload_n 3, 1) := by decide +kernel
theorem dl_107 : decode code 107 = .ok (.iconst 1, 1) := by decide +kernel
theorem dl_108 : decode code 108 = .ok (.iadd, 1) := by decide +kernel
theorem dl_109 : decode code 109 = .ok (.iaload, 1) := by decide +kernel
theorem dl_110 : decode code 110 = .ok (.aload_n 0, 1) := by decide +kernel
theorem dl_111 : decode code 111 = .ok (.iload_n 3, 1) := by decide +kernel
theorem dl_112 : decode code 112 = .ok (.iconst 2, 1) := by decide +kernel
theorem dl_113 : decode code 113 = .ok (.iadd, 1) := by decide +kernel
theorem dl_114 : decode code 114 = .ok (.iaload, 1) := by decide +kernel
theorem dl_115 : decode code 115 = .ok (.aload_n 0, 1) := by decide +kernel
theorem dl_116 : decode code 116 = .ok (.iload_n 3, 1) := by decide +kernel
theorem dl_117 : decode code 117 = .ok (.iconst 3, 1) := by decide +kernel
theorem dl_118 : decode code 118 = .ok (.iadd, 1) := by decide +kernel
theorem dl_119 : decode code 119 = .ok (.iaload, 1) := by decide +kernel
theorem dl_120 : decode code 120 = .ok (.invokevirtual 13, 3) := by decide +kernel
theorem dl_123 : decode code 123 = .ok (.aload_n 2, 1) := by decide +kernel
theorem dl_124 : decode code 124 = .ok (.aload_n 0, 1) := by decide +kernel
theorem dl_125 : decode code 125 = .ok (.iload_n 3, 1) := by decide +kernel
theorem dl_126 : decode code 126 = .ok (.iconst 1, 1) := by decide +kernel
theorem dl_127 : decode code 127 = .ok (.iadd, 1) := by decide +kernel
theorem dl_128 : decode code 128 = .ok (.iaload, 1) := by decide +kernel
theorem dl_129 : decode code 129 = .ok (.aload_n 0, 1) := by decide +kernel
theorem dl_130 : decode code 130 = .ok (.iload_n 3, 1) := by decide +kernel
theorem dl_131 : decode code 131 = .ok (.iconst 2, 1) := by decide +kernel
theorem dl_132 : decode code 132 = .ok (.iadd, 1) := by decide +kernel
theorem dl_133 : decode code 133 = .ok (.iaload, 1) := by decide +kernel
theorem dl_134 : decode code 134 = .ok (.aload_n 0, 1) := by decide +kernel
theorem dl_135 : decode code 135 = .ok (.iload_n 3, 1) := by decide +kernel
theorem dl_136 : decode code 136 = .ok (.iconst 3, 1) := by decide +kernel
theorem dl_137 : decode code 137 = .ok (.iadd, 1) := by decide +kernel
theorem dl_138 : decode code 138 = .ok (.iaload, 1) := by decide +kernel
theorem dl_139 : decode code 139 = .ok (.invokevirtual 17, 3) := by decide +kernel
theorem dl_142 : decode code 142 = .ok (.if_icmp .eq 492, 3) := by decide +kernel
theorem dl_145 : decode code 145 = .ok (.iconst 0, 1) := by decide +kernel
theorem dl_146 : decode code 146 = .ok (.ireturn, 1) := by decide +kernel
theorem dl_147 : decode code 147 = .ok (.aload_n 1, 1) := by decide +kernel
