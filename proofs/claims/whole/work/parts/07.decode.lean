theorem dM_tap_0 : decode bM_tap 0 = .ok (.iload_n 1, 1) := by decide +kernel
theorem dM_tap_1 : decode bM_tap 1 = .ok (.iconst 0, 1) := by decide +kernel
theorem dM_tap_2 : decode bM_tap 2 = .ok (.iconst 3, 1) := by decide +kernel
theorem dM_tap_3 : decode bM_tap 3 = .ok (.invokestatic 53, 3) := by decide +kernel
theorem dM_tap_6 : decode bM_tap 6 = .ok (.ifCond .eq 22, 3) := by decide +kernel
theorem dM_tap_9 : decode bM_tap 9 = .ok (.iload_n 2, 1) := by decide +kernel
theorem dM_tap_10 : decode bM_tap 10 = .ok (.iconst 0, 1) := by decide +kernel
theorem dM_tap_11 : decode bM_tap 11 = .ok (.iconst 3, 1) := by decide +kernel
theorem dM_tap_12 : decode bM_tap 12 = .ok (.invokestatic 53, 3) := by decide +kernel
theorem dM_tap_15 : decode bM_tap 15 = .ok (.ifCond .eq 13, 3) := by decide +kernel
theorem dM_tap_18 : decode bM_tap 18 = .ok (.iload_n 3, 1) := by decide +kernel
theorem dM_tap_19 : decode bM_tap 19 = .ok (.iconst 0, 1) := by decide +kernel
theorem dM_tap_20 : decode bM_tap 20 = .ok (.bipush 8, 2) := by decide +kernel
theorem dM_tap_22 : decode bM_tap 22 = .ok (.invokestatic 53, 3) := by decide +kernel
theorem dM_tap_25 : decode bM_tap 25 = .ok (.ifCond .ne 5, 3) := by decide +kernel
theorem dM_tap_28 : decode bM_tap 28 = .ok (.iconst (-1), 1) := by decide +kernel
theorem dM_tap_29 : decode bM_tap 29 = .ok (.ireturn, 1) := by decide +kernel
theorem dM_tap_30 : decode bM_tap 30 = .ok (.aload_n 0, 1) := by decide +kernel
theorem dM_tap_31 : decode bM_tap 31 = .ok (.getfield 32, 3) := by decide +kernel
theorem dM_tap_34 : decode bM_tap 34 = .ok (.iload_n 2, 1) := by decide +kernel
theorem dM_tap_35 : decode bM_tap 35 = .ok (.iaload, 1) := by decide +kernel
theorem dM_tap_36 : decode bM_tap 36 = .ok (.bipush 8, 2) := by decide +kernel
theorem dM_tap_38 : decode bM_tap 38 = .ok (.if_icmp .ne 6, 3) := by decide +kernel
theorem dM_tap_41 : decode bM_tap 41 = .ok (.bipush (-2), 2) := by decide +kernel
theorem dM_tap_43 : decode bM_tap 43 = .ok (.ireturn, 1) := by decide +kernel
theorem dM_tap_44 : decode bM_tap 44 = .ok (.aload_n 0, 1) := by decide +kernel
theorem dM_tap_45 : decode bM_tap 45 = .ok (.getfield 35, 3) := by decide +kernel
theorem dM_tap_48 : decode bM_tap 48 = .ok (.iconst 4, 1) := by decide +kernel
theorem dM_tap_49 : decode bM_tap 49 = .ok (.iload_n 2, 1) := by decide +kernel
theorem dM_tap_50 : decode bM_tap 50 = .ok (.imul, 1) := by decide +kernel
theorem dM_tap_51 : decode bM_tap 51 = .ok (.iload_n 1, 1) := by decide +kernel
theorem dM_tap_52 : decode bM_tap 52 = .ok (.iadd, 1) := by decide +kernel
theorem dM_tap_53 : decode bM_tap 53 = .ok (.baload, 1) := by decide +kernel
theorem dM_tap_54 : decode bM_tap 54 = .ok (.ifCond .eq 6, 3) := by decide +kernel
theorem dM_tap_57 : decode bM_tap 57 = .ok (.bipush (-4), 2) := by decide +kernel
theorem dM_tap_59 : decode bM_tap 59 = .ok (.ireturn, 1) := by decide +kernel
theorem dM_tap_60 : decode bM_tap 60 = .ok (.aload_n 0, 1) := by decide +kernel
theorem dM_tap_61 : decode bM_tap 61 = .ok (.iload_n 1, 1) := by decide +kernel
theorem dM_tap_62 : decode bM_tap 62 = .ok (.invokevirtual 71, 3) := by decide +kernel
theorem dM_tap_65 : decode bM_tap 65 = .ok (.aload_n 0, 1) := by decide +kernel
theorem dM_tap_66 : decode bM_tap 66 = .ok (.getfield 25, 3) := by decide +kernel
theorem dM_tap_69 : decode bM_tap 69 = .ok (.iload_n 2, 1) := by decide +kernel
theorem dM_tap_70 : decode bM_tap 70 = .ok (.baload, 1) := by decide +kernel
theorem dM_tap_71 : decode bM_tap 71 = .ok (.ifCond .ne 21, 3) := by decide +kernel
theorem dM_tap_74 : decode bM_tap 74 = .ok (.aload_n 0, 1) := by decide +kernel
theorem dM_tap_75 : decode bM_tap 75 = .ok (.getfield 19, 3) := by decide +kernel
theorem dM_tap_78 : decode bM_tap 78 = .ok (.iconst 0, 1) := by decide +kernel
theorem dM_tap_79 : decode bM_tap 79 = .ok (.iaload, 1) := by decide +kernel
theorem dM_tap_80 : decode bM_tap 80 = .ok (.aload_n 0, 1) := by decide +kernel
theorem dM_tap_81 : decode bM_tap 81 = .ok (.getfield 13, 3) := by decide +kernel
theorem dM_tap_84 : decode bM_tap 84 = .ok (.iconst 4, 1) := by decide +kernel
theorem dM_tap_85 : decode bM_tap 85 = .ok (.iaload, 1) := by decide +kernel
theorem dM_tap_86 : decode bM_tap 86 = .ok (.if_icmp .ge 6, 3) := by decide +kernel
theorem dM_tap_89 : decode bM_tap 89 = .ok (.bipush (-3), 2) := by decide +kernel
theorem dM_tap_91 : decode bM_tap 91 = .ok (.ireturn, 1) := by decide +kernel
theorem dM_tap_92 : decode bM_tap 92 = .ok (.aload_n 0, 1) := by decide +kernel
theorem dM_tap_93 : decode bM_tap 93 = .ok (.getfield 25, 3) := by decide +kernel
theorem dM_tap_96 : decode bM_tap 96 = .ok (.iload_n 2, 1) := by decide +kernel
theorem dM_tap_97 : decode bM_tap 97 = .ok (.baload, 1) := by decide +kernel
theorem dM_tap_98 : decode bM_tap 98 = .ok (.ifCond .eq 17, 3) := by decide +kernel
theorem dM_tap_101 : decode bM_tap 101 = .ok (.aload_n 0, 1) := by decide +kernel
theorem dM_tap_102 : decode bM_tap 102 = .ok (.iload_n 1, 1) := by decide +kernel
theorem dM_tap_103 : decode bM_tap 103 = .ok (.aload_n 0, 1) := by decide +kernel
theorem dM_tap_104 : decode bM_tap 104 = .ok (.getfield 22, 3) := by decide +kernel
theorem dM_tap_107 : decode bM_tap 107 = .ok (.iload_n 2, 1) := by decide +kernel
theorem dM_tap_108 : decode bM_tap 108 = .ok (.iaload, 1) := by decide +kernel
theorem dM_tap_109 : decode bM_tap 109 = .ok (.invokevirtual 75, 3) := by decide +kernel
theorem dM_tap_112 : decode bM_tap 112 = .ok (.goto 14, 3) := by decide +kernel
theorem dM_tap_115 : decode bM_tap 115 = .ok (.aload_n 0, 1) := by decide +kernel
theorem dM_tap_116 : decode bM_tap 116 = .ok (.iload_n 1, 1) := by decide +kernel
theorem dM_tap_117 : decode bM_tap 117 = .ok (.aload_n 0, 1) := by decide +kernel
theorem dM_tap_118 : decode bM_tap 118 = .ok (.getfield 22, 3) := by decide +kernel
theorem dM_tap_121 : decode bM_tap 121 = .ok (.iload_n 2, 1) := by decide +kernel
theorem dM_tap_122 : decode bM_tap 122 = .ok (.iaload, 1) := by decide +kernel
theorem dM_tap_123 : decode bM_tap 123 = .ok (.invokevirtual 79, 3) := by decide +kernel
theorem dM_tap_126 : decode bM_tap 126 = .ok (.istore 4, 2) := by decide +kernel
theorem dM_tap_128 : decode bM_tap 128 = .ok (.aload_n 0, 1) := by decide +kernel
theorem dM_tap_129 : decode bM_tap 129 = .ok (.getfield 19, 3) := by decide +kernel
theorem dM_tap_132 : decode bM_tap 132 = .ok (.iconst 0, 1) := by decide +kernel
theorem dM_tap_133 : decode bM_tap 133 = .ok (.dup2, 1) := by decide +kernel
theorem dM_tap_134 : decode bM_tap 134 = .ok (.iaload, 1) := by decide +kernel
theorem dM_tap_135 : decode bM_tap 135 = .ok (.iload 4, 2) := by decide +kernel
theorem dM_tap_137 : decode bM_tap 137 = .ok (.isub, 1) := by decide +kernel
theorem dM_tap_138 : decode bM_tap 138 = .ok (.iastore, 1) := by decide +kernel
theorem dM_tap_139 : decode bM_tap 139 = .ok (.aload_n 0, 1) := by decide +kernel
theorem dM_tap_140 : decode bM_tap 140 = .ok (.getfield 19, 3) := by decide +kernel
theorem dM_tap_143 : decode bM_tap 143 = .ok (.bipush 6, 2) := by decide +kernel
theorem dM_tap_145 : decode bM_tap 145 = .ok (.dup2, 1) := by decide +kernel
theorem dM_tap_146 : decode bM_tap 146 = .ok (.iaload, 1) := by decide +kernel
theorem dM_tap_147 : decode bM_tap 147 = .ok (.iload 4, 2) := by decide +kernel
theorem dM_tap_149 : decode bM_tap 149 = .ok (.iadd, 1) := by decide +kernel
theorem dM_tap_150 : decode bM_tap 150 = .ok (.iastore, 1) := by decide +kernel
theorem dM_tap_151 : decode bM_tap 151 = .ok (.aload_n 0, 1) := by decide +kernel
theorem dM_tap_152 : decode bM_tap 152 = .ok (.iload_n 1, 1) := by decide +kernel
theorem dM_tap_153 : decode bM_tap 153 = .ok (.invokevirtual 68, 3) := by decide +kernel
theorem dM_tap_156 : decode bM_tap 156 = .ok (.iconst 1, 1) := by decide +kernel
theorem dM_tap_157 : decode bM_tap 157 = .ok (.iadd, 1) := by decide +kernel
theorem dM_tap_158 : decode bM_tap 158 = .ok (.istore 5, 2) := by decide +kernel
theorem dM_tap_160 : decode bM_tap 160 = .ok (.aload_n 0, 1) := by decide +kernel
theorem dM_tap_161 : decode bM_tap 161 = .ok (.iload_n 1, 1) := by decide +kernel
theorem dM_tap_162 : decode bM_tap 162 = .ok (.iload_n 3, 1) := by decide +kernel
theorem dM_tap_163 : decode bM_tap 163 = .ok (.ifCond .ne 8, 3) := by decide +kernel
theorem dM_tap_166 : decode bM_tap 166 = .ok (.bipush 8, 2) := by decide +kernel
theorem dM_tap_168 : decode bM_tap 168 = .ok (.goto 4, 3) := by decide +kernel
theorem dM_tap_171 : decode bM_tap 171 = .ok (.iload_n 3, 1) := by decide +kernel
theorem dM_tap_172 : decode bM_tap 172 = .ok (.invokevirtual 82, 3) := by decide +kernel
theorem dM_tap_175 : decode bM_tap 175 = .ok (.iload_n 3, 1) := by decide +kernel
theorem dM_tap_176 : decode bM_tap 176 = .ok (.ifCond .le 16, 3) := by decide +kernel
theorem dM_tap_179 : decode bM_tap 179 = .ok (.aload_n 0, 1) := by decide +kernel
theorem dM_tap_180 : decode bM_tap 180 = .ok (.dup, 1) := by decide +kernel
theorem dM_tap_181 : decode bM_tap 181 = .ok (.getfield 86, 3) := by decide +kernel
theorem dM_tap_184 : decode bM_tap 184 = .ok (.iconst 1, 1) := by decide +kernel
theorem dM_tap_185 : decode bM_tap 185 = .ok (.iadd, 1) := by decide +kernel
theorem dM_tap_186 : decode bM_tap 186 = .ok (.putfield 86, 3) := by decide +kernel
theorem dM_tap_189 : decode bM_tap 189 = .ok (.bipush (-5), 2) := by decide +kernel
theorem dM_tap_191 : decode bM_tap 191 = .ok (.ireturn, 1) := by decide +kernel
theorem dM_tap_192 : decode bM_tap 192 = .ok (.bipush 32, 2) := by decide +kernel
theorem dM_tap_194 : decode bM_tap 194 = .ok (.iload_n 2, 1) := by decide +kernel
theorem dM_tap_195 : decode bM_tap 195 = .ok (.imul, 1) := by decide +kernel
theorem dM_tap_196 : decode bM_tap 196 = .ok (.iconst 4, 1) := by decide +kernel
theorem dM_tap_197 : decode bM_tap 197 = .ok (.aload_n 0, 1) := by decide +kernel
theorem dM_tap_198 : decode bM_tap 198 = .ok (.getfield 32, 3) := by decide +kernel
theorem dM_tap_201 : decode bM_tap 201 = .ok (.iload_n 2, 1) := by decide +kernel
theorem dM_tap_202 : decode bM_tap 202 = .ok (.iaload, 1) := by decide +kernel
theorem dM_tap_203 : decode bM_tap 203 = .ok (.imul, 1) := by decide +kernel
theorem dM_tap_204 : decode bM_tap 204 = .ok (.iadd, 1) := by decide +kernel
theorem dM_tap_205 : decode bM_tap 205 = .ok (.istore 6, 2) := by decide +kernel
theorem dM_tap_207 : decode bM_tap 207 = .ok (.aload_n 0, 1) := by decide +kernel
theorem dM_tap_208 : decode bM_tap 208 = .ok (.getfield 29, 3) := by decide +kernel
theorem dM_tap_211 : decode bM_tap 211 = .ok (.iload 6, 2) := by decide +kernel
theorem dM_tap_213 : decode bM_tap 213 = .ok (.iload_n 1, 1) := by decide +kernel
theorem dM_tap_214 : decode bM_tap 214 = .ok (.iastore, 1) := by decide +kernel
theorem dM_tap_215 : decode bM_tap 215 = .ok (.aload_n 0, 1) := by decide +kernel
theorem dM_tap_216 : decode bM_tap 216 = .ok (.getfield 29, 3) := by decide +kernel
theorem dM_tap_219 : decode bM_tap 219 = .ok (.iload 6, 2) := by decide +kernel
theorem dM_tap_221 : decode bM_tap 221 = .ok (.iconst 1, 1) := by decide +kernel
theorem dM_tap_222 : decode bM_tap 222 = .ok (.iadd, 1) := by decide +kernel
theorem dM_tap_223 : decode bM_tap 223 = .ok (.iload 5, 2) := by decide +kernel
theorem dM_tap_225 : decode bM_tap 225 = .ok (.iastore, 1) := by decide +kernel
theorem dM_tap_226 : decode bM_tap 226 = .ok (.aload_n 0, 1) := by decide +kernel
theorem dM_tap_227 : decode bM_tap 227 = .ok (.getfield 29, 3) := by decide +kernel
theorem dM_tap_230 : decode bM_tap 230 = .ok (.iload 6, 2) := by decide +kernel
theorem dM_tap_232 : decode bM_tap 232 = .ok (.iconst 2, 1) := by decide +kernel
theorem dM_tap_233 : decode bM_tap 233 = .ok (.iadd, 1) := by decide +kernel
theorem dM_tap_234 : decode bM_tap 234 = .ok (.iload 4, 2) := by decide +kernel
theorem dM_tap_236 : decode bM_tap 236 = .ok (.iastore, 1) := by decide +kernel
theorem dM_tap_237 : decode bM_tap 237 = .ok (.aload_n 0, 1) := by decide +kernel
theorem dM_tap_238 : decode bM_tap 238 = .ok (.getfield 29, 3) := by decide +kernel
theorem dM_tap_241 : decode bM_tap 241 = .ok (.iload 6, 2) := by decide +kernel
theorem dM_tap_243 : decode bM_tap 243 = .ok (.iconst 3, 1) := by decide +kernel
theorem dM_tap_244 : decode bM_tap 244 = .ok (.iadd, 1) := by decide +kernel
theorem dM_tap_245 : decode bM_tap 245 = .ok (.aload_n 0, 1) := by decide +kernel
theorem dM_tap_246 : decode bM_tap 246 = .ok (.getfield 19, 3) := by decide +kernel
theorem dM_tap_249 : decode bM_tap 249 = .ok (.iconst 0, 1) := by decide +kernel
theorem dM_tap_250 : decode bM_tap 250 = .ok (.iaload, 1) := by decide +kernel
theorem dM_tap_251 : decode bM_tap 251 = .ok (.iastore, 1) := by decide +kernel
theorem dM_tap_252 : decode bM_tap 252 = .ok (.aload_n 0, 1) := by decide +kernel
theorem dM_tap_253 : decode bM_tap 253 = .ok (.getfield 32, 3) := by decide +kernel
theorem dM_tap_256 : decode bM_tap 256 = .ok (.iload_n 2, 1) := by decide +kernel
theorem dM_tap_257 : decode bM_tap 257 = .ok (.dup2, 1) := by decide +kernel
theorem dM_tap_258 : decode bM_tap 258 = .ok (.iaload, 1) := by decide +kernel
theorem dM_tap_259 : decode bM_tap 259 = .ok (.iconst 1, 1) := by decide +kernel
theorem dM_tap_260 : decode bM_tap 260 = .ok (.iadd, 1) := by decide +kernel
theorem dM_tap_261 : decode bM_tap 261 = .ok (.iastore, 1) := by decide +kernel
theorem dM_tap_262 : decode bM_tap 262 = .ok (.iload 4, 2) := by decide +kernel
theorem dM_tap_264 : decode bM_tap 264 = .ok (.ireturn, 1) := by decide +kernel
theorem dM_load_0 : decode bM_load 0 = .ok (.aload_n 0, 1) := by decide +kernel
theorem dM_load_1 : decode bM_load 1 = .ok (.iload_n 1, 1) := by decide +kernel
theorem dM_load_2 : decode bM_load 2 = .ok (.invokevirtual 61, 3) := by decide +kernel
theorem dM_load_5 : decode bM_load 5 = .ok (.istore_n 2, 1) := by decide +kernel
theorem dM_load_6 : decode bM_load 6 = .ok (.iconst 0, 1) := by decide +kernel
theorem dM_load_7 : decode bM_load 7 = .ok (.istore_n 3, 1) := by decide +kernel
theorem dM_load_8 : decode bM_load 8 = .ok (.iload_n 3, 1) := by decide +kernel
theorem dM_load_9 : decode bM_load 9 = .ok (.bipush 8, 2) := by decide +kernel
theorem dM_load_11 : decode bM_load 11 = .ok (.if_icmp .ge 23, 3) := by decide +kernel
theorem dM_load_14 : decode bM_load 14 = .ok (.aload_n 0, 1) := by decide +kernel
theorem dM_load_15 : decode bM_load 15 = .ok (.getfield 19, 3) := by decide +kernel
theorem dM_load_18 : decode bM_load 18 = .ok (.iload_n 3, 1) := by decide +kernel
theorem dM_load_19 : decode bM_load 19 = .ok (.aload_n 0, 1) := by decide +kernel
theorem dM_load_20 : decode bM_load 20 = .ok (.getfield 16, 3) := by decide +kernel
theorem dM_load_23 : decode bM_load 23 = .ok (.iload_n 2, 1) := by decide +kernel
theorem dM_load_24 : decode bM_load 24 = .ok (.iload_n 3, 1) := by decide +kernel
theorem dM_load_25 : decode bM_load 25 = .ok (.iadd, 1) := by decide +kernel
theorem dM_load_26 : decode bM_load 26 = .ok (.iaload, 1) := by decide +kernel
theorem dM_load_27 : decode bM_load 27 = .ok (.iastore, 1) := by decide +kernel
theorem dM_load_28 : decode bM_load 28 = .ok (.iinc 3 1, 3) := by decide +kernel
theorem dM_load_31 : decode bM_load 31 = .ok (.goto (-23), 3) := by decide +kernel
theorem dM_load_34 : decode bM_load 34 = .ok (.aload_n 0, 1) := by decide +kernel
theorem dM_load_35 : decode bM_load 35 = .ok (.getfield 19, 3) := by decide +kernel
theorem dM_load_38 : decode bM_load 38 = .ok (.bipush 6, 2) := by decide +kernel
theorem dM_load_40 : decode bM_load 40 = .ok (.aload_n 0, 1) := by decide +kernel
theorem dM_load_41 : decode bM_load 41 = .ok (.iload_n 1, 1) := by decide +kernel
theorem dM_load_42 : decode bM_load 42 = .ok (.invokevirtual 65, 3) := by decide +kernel
theorem dM_load_45 : decode bM_load 45 = .ok (.iastore, 1) := by decide +kernel
theorem dM_load_46 : decode bM_load 46 = .ok (.return_, 1) := by decide +kernel
theorem dM_base_0 : decode bM_base 0 = .ok (.aload_n 0, 1) := by decide +kernel
theorem dM_base_1 : decode bM_base 1 = .ok (.getfield 16, 3) := by decide +kernel
theorem dM_base_4 : decode bM_base 4 = .ok (.bipush 16, 2) := by decide +kernel
theorem dM_base_6 : decode bM_base 6 = .ok (.iload_n 1, 1) := by decide +kernel
theorem dM_base_7 : decode bM_base 7 = .ok (.imul, 1) := by decide +kernel
theorem dM_base_8 : decode bM_base 8 = .ok (.bipush 7, 2) := by decide +kernel
theorem dM_base_10 : decode bM_base 10 = .ok (.iadd, 1) := by decide +kernel
theorem dM_base_11 : decode bM_base 11 = .ok (.iaload, 1) := by decide +kernel
theorem dM_base_12 : decode bM_base 12 = .ok (.sipush 4096, 3) := by decide +kernel
theorem dM_base_15 : decode bM_base 15 = .ok (.idiv, 1) := by decide +kernel
theorem dM_base_16 : decode bM_base 16 = .ok (.istore_n 2, 1) := by decide +kernel
theorem dM_base_17 : decode bM_base 17 = .ok (.aload_n 0, 1) := by decide +kernel
theorem dM_base_18 : decode bM_base 18 = .ok (.getfield 16, 3) := by decide +kernel
theorem dM_base_21 : decode bM_base 21 = .ok (.bipush 16, 2) := by decide +kernel
theorem dM_base_23 : decode bM_base 23 = .ok (.iload_n 1, 1) := by decide +kernel
theorem dM_base_24 : decode bM_base 24 = .ok (.imul, 1) := by decide +kernel
theorem dM_base_25 : decode bM_base 25 = .ok (.bipush 15, 2) := by decide +kernel
theorem dM_base_27 : decode bM_base 27 = .ok (.iadd, 1) := by decide +kernel
theorem dM_base_28 : decode bM_base 28 = .ok (.iaload, 1) := by decide +kernel
theorem dM_base_29 : decode bM_base 29 = .ok (.sipush 4096, 3) := by decide +kernel
theorem dM_base_32 : decode bM_base 32 = .ok (.idiv, 1) := by decide +kernel
theorem dM_base_33 : decode bM_base 33 = .ok (.istore_n 3, 1) := by decide +kernel
theorem dM_base_34 : decode bM_base 34 = .ok (.bipush 16, 2) := by decide +kernel
theorem dM_base_36 : decode bM_base 36 = .ok (.iload_n 1, 1) := by decide +kernel
theorem dM_base_37 : decode bM_base 37 = .ok (.imul, 1) := by decide +kernel
theorem dM_base_38 : decode bM_base 38 = .ok (.iload_n 3, 1) := by decide +kernel
theorem dM_base_39 : decode bM_base 39 = .ok (.iload_n 2, 1) := by decide +kernel
theorem dM_base_40 : decode bM_base 40 = .ok (.if_icmp .le 8, 3) := by decide +kernel
theorem dM_base_43 : decode bM_base 43 = .ok (.bipush 8, 2) := by decide +kernel
theorem dM_base_45 : decode bM_base 45 = .ok (.goto 4, 3) := by decide +kernel
theorem dM_base_48 : decode bM_base 48 = .ok (.iconst 0, 1) := by decide +kernel
theorem dM_base_49 : decode bM_base 49 = .ok (.iadd, 1) := by decide +kernel
theorem dM_base_50 : decode bM_base 50 = .ok (.ireturn, 1) := by decide +kernel
theorem dM_spent_0 : decode bM_spent 0 = .ok (.aload_n 0, 1) := by decide +kernel
theorem dM_spent_1 : decode bM_spent 1 = .ok (.iload_n 1, 1) := by decide +kernel
theorem dM_spent_2 : decode bM_spent 2 = .ok (.invokevirtual 61, 3) := by decide +kernel
theorem dM_spent_5 : decode bM_spent 5 = .ok (.istore_n 2, 1) := by decide +kernel
theorem dM_spent_6 : decode bM_spent 6 = .ok (.aload_n 0, 1) := by decide +kernel
theorem dM_spent_7 : decode bM_spent 7 = .ok (.getfield 16, 3) := by decide +kernel
theorem dM_spent_10 : decode bM_spent 10 = .ok (.iload_n 2, 1) := by decide +kernel
theorem dM_spent_11 : decode bM_spent 11 = .ok (.bipush 7, 2) := by decide +kernel
theorem dM_spent_13 : decode bM_spent 13 = .ok (.iadd, 1) := by decide +kernel
theorem dM_spent_14 : decode bM_spent 14 = .ok (.iaload, 1) := by decide +kernel
theorem dM_spent_15 : decode bM_spent 15 = .ok (.sipush 4096, 3) := by decide +kernel
theorem dM_spent_18 : decode bM_spent 18 = .ok (.irem, 1) := by decide +kernel
theorem dM_spent_19 : decode bM_spent 19 = .ok (.aload_n 0, 1) := by decide +kernel
theorem dM_spent_20 : decode bM_spent 20 = .ok (.getfield 57, 3) := by decide +kernel
theorem dM_spent_23 : decode bM_spent 23 = .ok (.sipush 1440, 3) := by decide +kernel
theorem dM_spent_26 : decode bM_spent 26 = .ok (.idiv, 1) := by decide +kernel
theorem dM_spent_27 : decode bM_spent 27 = .ok (.if_icmp .ne 15, 3) := by decide +kernel
theorem dM_spent_30 : decode bM_spent 30 = .ok (.aload_n 0, 1) := by decide +kernel
theorem dM_spent_31 : decode bM_spent 31 = .ok (.getfield 16, 3) := by decide +kernel
theorem dM_spent_34 : decode bM_spent 34 = .ok (.iload_n 2, 1) := by decide +kernel
theorem dM_spent_35 : decode bM_spent 35 = .ok (.bipush 6, 2) := by decide +kernel
theorem dM_spent_37 : decode bM_spent 37 = .ok (.iadd, 1) := by decide +kernel
theorem dM_spent_38 : decode bM_spent 38 = .ok (.iaload, 1) := by decide +kernel
theorem dM_spent_39 : decode bM_spent 39 = .ok (.goto 4, 3) := by decide +kernel
theorem dM_spent_42 : decode bM_spent 42 = .ok (.iconst 0, 1) := by decide +kernel
theorem dM_spent_43 : decode bM_spent 43 = .ok (.ireturn, 1) := by decide +kernel
theorem dM_leave_0 : decode bM_leave 0 = .ok (.aload_n 0, 1) := by decide +kernel
theorem dM_leave_1 : decode bM_leave 1 = .ok (.getfield 19, 3) := by decide +kernel
theorem dM_leave_4 : decode bM_leave 4 = .ok (.iconst 1, 1) := by decide +kernel
theorem dM_leave_5 : decode bM_leave 5 = .ok (.iaload, 1) := by decide +kernel
theorem dM_leave_6 : decode bM_leave 6 = .ok (.ifCond .ge 41, 3) := by decide +kernel
theorem dM_leave_9 : decode bM_leave 9 = .ok (.aload_n 0, 1) := by decide +kernel
theorem dM_leave_10 : decode bM_leave 10 = .ok (.aload_n 0, 1) := by decide +kernel
theorem dM_leave_11 : decode bM_leave 11 = .ok (.aload_n 0, 1) := by decide +kernel
theorem dM_leave_12 : decode bM_leave 12 = .ok (.iload_n 2, 1) := by decide +kernel
theorem dM_leave_13 : decode bM_leave 13 = .ok (.invokevirtual 89, 3) := by decide +kernel
theorem dM_leave_16 : decode bM_leave 16 = .ok (.aload_n 0, 1) := by decide +kernel
theorem dM_leave_17 : decode bM_leave 17 = .ok (.getfield 57, 3) := by decide +kernel
theorem dM_leave_20 : decode bM_leave 20 = .ok (.invokevirtual 92, 3) := by decide +kernel
theorem dM_leave_23 : decode bM_leave 23 = .ok (.iload_n 1, 1) := by decide +kernel
theorem dM_leave_24 : decode bM_leave 24 = .ok (.invokevirtual 95, 3) := by decide +kernel
theorem dM_leave_27 : decode bM_leave 27 = .ok (.istore_n 3, 1) := by decide +kernel
theorem dM_leave_28 : decode bM_leave 28 = .ok (.aload_n 0, 1) := by decide +kernel
theorem dM_leave_29 : decode bM_leave 29 = .ok (.getfield 19, 3) := by decide +kernel
theorem dM_leave_32 : decode bM_leave 32 = .ok (.iconst 4, 1) := by decide +kernel
theorem dM_leave_33 : decode bM_leave 33 = .ok (.iconst 0, 1) := by decide +kernel
theorem dM_leave_34 : decode bM_leave 34 = .ok (.iastore, 1) := by decide +kernel
theorem dM_leave_35 : decode bM_leave 35 = .ok (.aload_n 0, 1) := by decide +kernel
theorem dM_leave_36 : decode bM_leave 36 = .ok (.getfield 19, 3) := by decide +kernel
theorem dM_leave_39 : decode bM_leave 39 = .ok (.iconst 5, 1) := by decide +kernel
theorem dM_leave_40 : decode bM_leave 40 = .ok (.sipush (-1000), 3) := by decide +kernel
theorem dM_leave_43 : decode bM_leave 43 = .ok (.iastore, 1) := by decide +kernel
theorem dM_leave_44 : decode bM_leave 44 = .ok (.goto 137, 3) := by decide +kernel
theorem dM_leave_47 : decode bM_leave 47 = .ok (.aload_n 0, 1) := by decide +kernel
theorem dM_leave_48 : decode bM_leave 48 = .ok (.getfield 57, 3) := by decide +kernel
theorem dM_leave_51 : decode bM_leave 51 = .ok (.aload_n 0, 1) := by decide +kernel
theorem dM_leave_52 : decode bM_leave 52 = .ok (.getfield 19, 3) := by decide +kernel
theorem dM_leave_55 : decode bM_leave 55 = .ok (.iconst 2, 1) := by decide +kernel
theorem dM_leave_56 : decode bM_leave 56 = .ok (.iaload, 1) := by decide +kernel
theorem dM_leave_57 : decode bM_leave 57 = .ok (.sipush 180, 3) := by decide +kernel
theorem dM_leave_60 : decode bM_leave 60 = .ok (.iadd, 1) := by decide +kernel
theorem dM_leave_61 : decode bM_leave 61 = .ok (.if_icmp .le 48, 3) := by decide +kernel
theorem dM_leave_64 : decode bM_leave 64 = .ok (.aload_n 0, 1) := by decide +kernel
theorem dM_leave_65 : decode bM_leave 65 = .ok (.aload_n 0, 1) := by decide +kernel
theorem dM_leave_66 : decode bM_leave 66 = .ok (.aload_n 0, 1) := by decide +kernel
theorem dM_leave_67 : decode bM_leave 67 = .ok (.aload_n 0, 1) := by decide +kernel
theorem dM_leave_68 : decode bM_leave 68 = .ok (.getfield 19, 3) := by decide +kernel
theorem dM_leave_71 : decode bM_leave 71 = .ok (.iconst 1, 1) := by decide +kernel
theorem dM_leave_72 : decode bM_leave 72 = .ok (.iaload, 1) := by decide +kernel
theorem dM_leave_73 : decode bM_leave 73 = .ok (.invokevirtual 89, 3) := by decide +kernel
theorem dM_leave_76 : decode bM_leave 76 = .ok (.aload_n 0, 1) := by decide +kernel
theorem dM_leave_77 : decode bM_leave 77 = .ok (.getfield 19, 3) := by decide +kernel
theorem dM_leave_80 : decode bM_leave 80 = .ok (.iconst 2, 1) := by decide +kernel
theorem dM_leave_81 : decode bM_leave 81 = .ok (.iaload, 1) := by decide +kernel
theorem dM_leave_82 : decode bM_leave 82 = .ok (.invokevirtual 92, 3) := by decide +kernel
theorem dM_leave_85 : decode bM_leave 85 = .ok (.iload_n 1, 1) := by decide +kernel
theorem dM_leave_86 : decode bM_leave 86 = .ok (.invokevirtual 95, 3) := by decide +kernel
theorem dM_leave_89 : decode bM_leave 89 = .ok (.istore_n 3, 1) := by decide +kernel
theorem dM_leave_90 : decode bM_leave 90 = .ok (.aload_n 0, 1) := by decide +kernel
theorem dM_leave_91 : decode bM_leave 91 = .ok (.getfield 19, 3) := by decide +kernel
theorem dM_leave_94 : decode bM_leave 94 = .ok (.iconst 4, 1) := by decide +kernel
theorem dM_leave_95 : decode bM_leave 95 = .ok (.iconst 0, 1) := by decide +kernel
theorem dM_leave_96 : decode bM_leave 96 = .ok (.iastore, 1) := by decide +kernel
theorem dM_leave_97 : decode bM_leave 97 = .ok (.aload_n 0, 1) := by decide +kernel
theorem dM_leave_98 : decode bM_leave 98 = .ok (.getfield 19, 3) := by decide +kernel
theorem dM_leave_101 : decode bM_leave 101 = .ok (.iconst 5, 1) := by decide +kernel
theorem dM_leave_102 : decode bM_leave 102 = .ok (.sipush (-1000), 3) := by decide +kernel
theorem dM_leave_105 : decode bM_leave 105 = .ok (.iastore, 1) := by decide +kernel
theorem dM_leave_106 : decode bM_leave 106 = .ok (.goto 75, 3) := by decide +kernel
theorem dM_leave_109 : decode bM_leave 109 = .ok (.aload_n 0, 1) := by decide +kernel
theorem dM_leave_110 : decode bM_leave 110 = .ok (.aload_n 0, 1) := by decide +kernel
theorem dM_leave_111 : decode bM_leave 111 = .ok (.getfield 7, 3) := by decide +kernel
theorem dM_leave_114 : decode bM_leave 114 = .ok (.bipush 6, 2) := by decide +kernel
theorem dM_leave_116 : decode bM_leave 116 = .ok (.aload_n 0, 1) := by decide +kernel
theorem dM_leave_117 : decode bM_leave 117 = .ok (.getfield 19, 3) := by decide +kernel
theorem dM_leave_120 : decode bM_leave 120 = .ok (.iconst 3, 1) := by decide +kernel
theorem dM_leave_121 : decode bM_leave 121 = .ok (.iaload, 1) := by decide +kernel
theorem dM_leave_122 : decode bM_leave 122 = .ok (.imul, 1) := by decide +kernel
theorem dM_leave_123 : decode bM_leave 123 = .ok (.iload_n 2, 1) := by decide +kernel
theorem dM_leave_124 : decode bM_leave 124 = .ok (.iadd, 1) := by decide +kernel
theorem dM_leave_125 : decode bM_leave 125 = .ok (.iaload, 1) := by decide +kernel
theorem dM_leave_126 : decode bM_leave 126 = .ok (.aload_n 0, 1) := by decide +kernel
theorem dM_leave_127 : decode bM_leave 127 = .ok (.getfield 19, 3) := by decide +kernel
theorem dM_leave_130 : decode bM_leave 130 = .ok (.iconst 2, 1) := by decide +kernel
theorem dM_leave_131 : decode bM_leave 131 = .ok (.iaload, 1) := by decide +kernel
theorem dM_leave_132 : decode bM_leave 132 = .ok (.invokevirtual 92, 3) := by decide +kernel
theorem dM_leave_135 : decode bM_leave 135 = .ok (.aload_n 0, 1) := by decide +kernel
theorem dM_leave_136 : decode bM_leave 136 = .ok (.getfield 19, 3) := by decide +kernel
theorem dM_leave_139 : decode bM_leave 139 = .ok (.iconst 4, 1) := by decide +kernel
theorem dM_leave_140 : decode bM_leave 140 = .ok (.iaload, 1) := by decide +kernel
theorem dM_leave_141 : decode bM_leave 141 = .ok (.isub, 1) := by decide +kernel
theorem dM_leave_142 : decode bM_leave 142 = .ok (.istore 4, 2) := by decide +kernel
theorem dM_leave_144 : decode bM_leave 144 = .ok (.aload_n 0, 1) := by decide +kernel
theorem dM_leave_145 : decode bM_leave 145 = .ok (.iload 4, 2) := by decide +kernel
theorem dM_leave_147 : decode bM_leave 147 = .ok (.ifCond .ge 7, 3) := by decide +kernel
theorem dM_leave_150 : decode bM_leave 150 = .ok (.iconst 0, 1) := by decide +kernel
theorem dM_leave_151 : decode bM_leave 151 = .ok (.goto 5, 3) := by decide +kernel
theorem dM_leave_154 : decode bM_leave 154 = .ok (.iload 4, 2) := by decide +kernel
theorem dM_leave_156 : decode bM_leave 156 = .ok (.iload_n 1, 1) := by decide +kernel
theorem dM_leave_157 : decode bM_leave 157 = .ok (.invokevirtual 95, 3) := by decide +kernel
theorem dM_leave_160 : decode bM_leave 160 = .ok (.istore_n 3, 1) := by decide +kernel
theorem dM_leave_161 : decode bM_leave 161 = .ok (.aload_n 0, 1) := by decide +kernel
theorem dM_leave_162 : decode bM_leave 162 = .ok (.getfield 19, 3) := by decide +kernel
theorem dM_leave_165 : decode bM_leave 165 = .ok (.iconst 4, 1) := by decide +kernel
theorem dM_leave_166 : decode bM_leave 166 = .ok (.dup2, 1) := by decide +kernel
theorem dM_leave_167 : decode bM_leave 167 = .ok (.iaload, 1) := by decide +kernel
theorem dM_leave_168 : decode bM_leave 168 = .ok (.iload_n 3, 1) := by decide +kernel
theorem dM_leave_169 : decode bM_leave 169 = .ok (.iadd, 1) := by decide +kernel
theorem dM_leave_170 : decode bM_leave 170 = .ok (.iastore, 1) := by decide +kernel
theorem dM_leave_171 : decode bM_leave 171 = .ok (.aload_n 0, 1) := by decide +kernel
theorem dM_leave_172 : decode bM_leave 172 = .ok (.getfield 19, 3) := by decide +kernel
theorem dM_leave_175 : decode bM_leave 175 = .ok (.iconst 5, 1) := by decide +kernel
theorem dM_leave_176 : decode bM_leave 176 = .ok (.aload_n 0, 1) := by decide +kernel
theorem dM_leave_177 : decode bM_leave 177 = .ok (.getfield 57, 3) := by decide +kernel
theorem dM_leave_180 : decode bM_leave 180 = .ok (.iastore, 1) := by decide +kernel
theorem dM_leave_181 : decode bM_leave 181 = .ok (.aload_n 0, 1) := by decide +kernel
theorem dM_leave_182 : decode bM_leave 182 = .ok (.getfield 19, 3) := by decide +kernel
theorem dM_leave_185 : decode bM_leave 185 = .ok (.iconst 1, 1) := by decide +kernel
theorem dM_leave_186 : decode bM_leave 186 = .ok (.iconst (-1), 1) := by decide +kernel
theorem dM_leave_187 : decode bM_leave 187 = .ok (.iastore, 1) := by decide +kernel
theorem dM_leave_188 : decode bM_leave 188 = .ok (.iload_n 3, 1) := by decide +kernel
theorem dM_leave_189 : decode bM_leave 189 = .ok (.ireturn, 1) := by decide +kernel
theorem dM_full_0 : decode bM_full 0 = .ok (.iconst 0, 1) := by decide +kernel
theorem dM_full_1 : decode bM_full 1 = .ok (.istore_n 2, 1) := by decide +kernel
theorem dM_full_2 : decode bM_full 2 = .ok (.iconst 0, 1) := by decide +kernel
theorem dM_full_3 : decode bM_full 3 = .ok (.istore_n 3, 1) := by decide +kernel
theorem dM_full_4 : decode bM_full 4 = .ok (.iload_n 3, 1) := by decide +kernel
theorem dM_full_5 : decode bM_full 5 = .ok (.bipush 6, 2) := by decide +kernel
theorem dM_full_7 : decode bM_full 7 = .ok (.if_icmp .ge 36, 3) := by decide +kernel
theorem dM_full_10 : decode bM_full 10 = .ok (.aload_n 0, 1) := by decide +kernel
theorem dM_full_11 : decode bM_full 11 = .ok (.getfield 7, 3) := by decide +kernel
theorem dM_full_14 : decode bM_full 14 = .ok (.bipush 6, 2) := by decide +kernel
theorem dM_full_16 : decode bM_full 16 = .ok (.iload_n 1, 1) := by decide +kernel
theorem dM_full_17 : decode bM_full 17 = .ok (.imul, 1) := by decide +kernel
theorem dM_full_18 : decode bM_full 18 = .ok (.iload_n 3, 1) := by decide +kernel
theorem dM_full_19 : decode bM_full 19 = .ok (.iadd, 1) := by decide +kernel
theorem dM_full_20 : decode bM_full 20 = .ok (.iaload, 1) := by decide +kernel
theorem dM_full_21 : decode bM_full 21 = .ok (.iload_n 2, 1) := by decide +kernel
theorem dM_full_22 : decode bM_full 22 = .ok (.if_icmp .le 15, 3) := by decide +kernel
theorem dM_full_25 : decode bM_full 25 = .ok (.aload_n 0, 1) := by decide +kernel
theorem dM_full_26 : decode bM_full 26 = .ok (.getfield 7, 3) := by decide +kernel
theorem dM_full_29 : decode bM_full 29 = .ok (.bipush 6, 2) := by decide +kernel
theorem dM_full_31 : decode bM_full 31 = .ok (.iload_n 1, 1) := by decide +kernel
theorem dM_full_32 : decode bM_full 32 = .ok (.imul, 1) := by decide +kernel
theorem dM_full_33 : decode bM_full 33 = .ok (.iload_n 3, 1) := by decide +kernel
theorem dM_full_34 : decode bM_full 34 = .ok (.iadd, 1) := by decide +kernel
theorem dM_full_35 : decode bM_full 35 = .ok (.iaload, 1) := by decide +kernel
theorem dM_full_36 : decode bM_full 36 = .ok (.istore_n 2, 1) := by decide +kernel
theorem dM_full_37 : decode bM_full 37 = .ok (.iinc 3 1, 3) := by decide +kernel
theorem dM_full_40 : decode bM_full 40 = .ok (.goto (-36), 3) := by decide +kernel
theorem dM_full_43 : decode bM_full 43 = .ok (.iload_n 2, 1) := by decide +kernel
theorem dM_full_44 : decode bM_full 44 = .ok (.ireturn, 1) := by decide +kernel
