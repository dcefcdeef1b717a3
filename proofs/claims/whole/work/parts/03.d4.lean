theorem dK_upIn_21 : decode cK_upIn 21 = .ok (.aload_n 0, 1) := by decide +kernel
theorem dK_upIn_22 : decode cK_upIn 22 = .ok (.getfield 9, 3) := by decide +kernel
theorem dK_upIn_25 : decode cK_upIn 25 = .ok (.iload_n 3, 1) := by decide +kernel
theorem dK_upIn_26 : decode cK_upIn 26 = .ok (.iaload, 1) := by decide +kernel
theorem dK_upIn_27 : decode cK_upIn 27 = .ok (.ior, 1) := by decide +kernel
theorem dK_upIn_28 : decode cK_upIn 28 = .ok (.istore_n 2, 1) := by decide +kernel
theorem dK_upIn_29 : decode cK_upIn 29 = .ok (.iinc 3 1, 3) := by decide +kernel
theorem dK_upIn_32 : decode cK_upIn 32 = .ok (.goto (-28), 3) := by decide +kernel
theorem dK_upIn_35 : decode cK_upIn 35 = .ok (.bipush 31, 2) := by decide +kernel
theorem dK_upIn_37 : decode cK_upIn 37 = .ok (.iload_n 2, 1) := by decide +kernel
theorem dK_upIn_38 : decode cK_upIn 38 = .ok (.iconst (-1), 1) := by decide +kernel
theorem dK_upIn_39 : decode cK_upIn 39 = .ok (.ixor, 1) := by decide +kernel
theorem dK_upIn_40 : decode cK_upIn 40 = .ok (.iand, 1) := by decide +kernel
theorem dK_upIn_41 : decode cK_upIn 41 = .ok (.ireturn, 1) := by decide +kernel
theorem dP_init_0 : decode cP_init 0 = .ok (.aload_n 0, 1) := by decide +kernel
theorem dP_init_1 : decode cP_init 1 = .ok (.invokespecial 1, 3) := by decide +kernel
theorem dP_init_4 : decode cP_init 4 = .ok (.aload_n 0, 1) := by decide +kernel
theorem dP_init_5 : decode cP_init 5 = .ok (.new 7, 3) := by decide +kernel
theorem dP_init_8 : decode cP_init 8 = .ok (.dup, 1) := by decide +kernel
theorem dP_init_9 : decode cP_init 9 = .ok (.invokespecial 9, 3) := by decide +kernel
theorem dP_init_12 : decode cP_init 12 = .ok (.putfield 10, 3) := by decide +kernel
theorem dP_init_15 : decode cP_init 15 = .ok (.aload_n 0, 1) := by decide +kernel
theorem dP_init_16 : decode cP_init 16 = .ok (.aload_n 0, 1) := by decide +kernel
theorem dP_init_17 : decode cP_init 17 = .ok (.getfield 10, 3) := by decide +kernel
theorem dP_init_20 : decode cP_init 20 = .ok (.getfield 16, 3) := by decide +kernel
theorem dP_init_23 : decode cP_init 23 = .ok (.putfield 20, 3) := by decide +kernel
theorem dP_init_26 : decode cP_init 26 = .ok (.aload_n 0, 1) := by decide +kernel
theorem dP_init_27 : decode cP_init 27 = .ok (.aload_n 1, 1) := by decide +kernel
theorem dP_init_28 : decode cP_init 28 = .ok (.putfield 21, 3) := by decide +kernel
theorem dP_init_31 : decode cP_init 31 = .ok (.return_, 1) := by decide +kernel
theorem dP_next_0 : decode cP_next 0 = .ok (.aload_n 0, 1) := by decide +kernel
theorem dP_next_1 : decode cP_next 1 = .ok (.getfield 25, 3) := by decide +kernel
theorem dP_next_4 : decode cP_next 4 = .ok (.ifCond .ne 18, 3) := by decide +kernel
theorem dP_next_7 : decode cP_next 7 = .ok (.aload_n 0, 1) := by decide +kernel
theorem dP_next_8 : decode cP_next 8 = .ok (.getfield 20, 3) := by decide +kernel
theorem dP_next_11 : decode cP_next 11 = .ok (.bipush 22, 2) := by decide +kernel
theorem dP_next_13 : decode cP_next 13 = .ok (.iaload, 1) := by decide +kernel
theorem dP_next_14 : decode cP_next 14 = .ok (.iconst 1, 1) := by decide +kernel
theorem dP_next_15 : decode cP_next 15 = .ok (.if_icmp .ne 7, 3) := by decide +kernel
theorem dP_next_18 : decode cP_next 18 = .ok (.iconst 1, 1) := by decide +kernel
theorem dP_next_19 : decode cP_next 19 = .ok (.goto 4, 3) := by decide +kernel
theorem dP_next_22 : decode cP_next 22 = .ok (.iconst 0, 1) := by decide +kernel
theorem dP_next_23 : decode cP_next 23 = .ok (.istore_n 1, 1) := by decide +kernel
theorem dP_next_24 : decode cP_next 24 = .ok (.aload_n 0, 1) := by decide +kernel
theorem dP_next_25 : decode cP_next 25 = .ok (.iconst 0, 1) := by decide +kernel
theorem dP_next_26 : decode cP_next 26 = .ok (.putfield 25, 3) := by decide +kernel
theorem dP_next_29 : decode cP_next 29 = .ok (.aload_n 0, 1) := by decide +kernel
theorem dP_next_30 : decode cP_next 30 = .ok (.getfield 10, 3) := by decide +kernel
theorem dP_next_33 : decode cP_next 33 = .ok (.bipush 6, 2) := by decide +kernel
theorem dP_next_35 : decode cP_next 35 = .ok (.putfield 29, 3) := by decide +kernel
theorem dP_next_38 : decode cP_next 38 = .ok (.iload_n 1, 1) := by decide +kernel
theorem dP_next_39 : decode cP_next 39 = .ok (.ifCond .eq 20, 3) := by decide +kernel
theorem dP_next_42 : decode cP_next 42 = .ok (.aload_n 0, 1) := by decide +kernel
theorem dP_next_43 : decode cP_next 43 = .ok (.getfield 21, 3) := by decide +kernel
theorem dP_next_46 : decode cP_next 46 = .ok (.invokevirtual 33, 3) := by decide +kernel
theorem dP_next_49 : decode cP_next 49 = .ok (.bipush 32, 2) := by decide +kernel
theorem dP_next_51 : decode cP_next 51 = .ok (.if_icmp .ge 8, 3) := by decide +kernel
theorem dP_next_54 : decode cP_next 54 = .ok (.aload_n 0, 1) := by decide +kernel
theorem dP_next_55 : decode cP_next 55 = .ok (.invokevirtual 39, 3) := by decide +kernel
theorem dP_next_58 : decode cP_next 58 = .ok (.return_, 1) := by decide +kernel
theorem dP_next_59 : decode cP_next 59 = .ok (.aload_n 0, 1) := by decide +kernel
theorem dP_next_60 : decode cP_next 60 = .ok (.getfield 20, 3) := by decide +kernel
theorem dP_next_63 : decode cP_next 63 = .ok (.bipush 25, 2) := by decide +kernel
theorem dP_next_65 : decode cP_next 65 = .ok (.iaload, 1) := by decide +kernel
theorem dP_next_66 : decode cP_next 66 = .ok (.iconst 1, 1) := by decide +kernel
theorem dP_next_67 : decode cP_next 67 = .ok (.if_icmp .ne 23, 3) := by decide +kernel
theorem dP_next_70 : decode cP_next 70 = .ok (.aload_n 0, 1) := by decide +kernel
theorem dP_next_71 : decode cP_next 71 = .ok (.getfield 21, 3) := by decide +kernel
theorem dP_next_74 : decode cP_next 74 = .ok (.aload_n 0, 1) := by decide +kernel
theorem dP_next_75 : decode cP_next 75 = .ok (.getfield 20, 3) := by decide +kernel
theorem dP_next_78 : decode cP_next 78 = .ok (.bipush 21, 2) := by decide +kernel
theorem dP_next_80 : decode cP_next 80 = .ok (.iaload, 1) := by decide +kernel
theorem dP_next_81 : decode cP_next 81 = .ok (.invokevirtual 42, 3) := by decide +kernel
theorem dP_next_84 : decode cP_next 84 = .ok (.pop, 1) := by decide +kernel
theorem dP_next_85 : decode cP_next 85 = .ok (.aload_n 0, 1) := by decide +kernel
theorem dP_next_86 : decode cP_next 86 = .ok (.invokevirtual 46, 3) := by decide +kernel
theorem dP_next_89 : decode cP_next 89 = .ok (.return_, 1) := by decide +kernel
theorem dP_next_90 : decode cP_next 90 = .ok (.aload_n 0, 1) := by decide +kernel
theorem dP_next_91 : decode cP_next 91 = .ok (.invokevirtual 49, 3) := by decide +kernel
theorem dP_next_94 : decode cP_next 94 = .ok (.istore_n 2, 1) := by decide +kernel
theorem dP_next_95 : decode cP_next 95 = .ok (.iload_n 2, 1) := by decide +kernel
theorem dP_next_96 : decode cP_next 96 = .ok (.invokestatic 52, 3) := by decide +kernel
theorem dP_next_99 : decode cP_next 99 = .ok (.ifCond .eq 4, 3) := by decide +kernel
theorem dP_next_102 : decode cP_next 102 = .ok (.return_, 1) := by decide +kernel
theorem dP_next_103 : decode cP_next 103 = .ok (.iload_n 2, 1) := by decide +kernel
theorem dP_next_104 : decode cP_next 104 = .ok (.invokestatic 56, 3) := by decide +kernel
theorem dP_next_107 : decode cP_next 107 = .ok (.ifCond .eq 7, 3) := by decide +kernel
theorem dP_next_110 : decode cP_next 110 = .ok (.aload_n 0, 1) := by decide +kernel
theorem dP_next_111 : decode cP_next 111 = .ok (.invokevirtual 59, 3) := by decide +kernel
theorem dP_next_114 : decode cP_next 114 = .ok (.iload_n 2, 1) := by decide +kernel
theorem dP_next_115 : decode cP_next 115 = .ok (.iconst 3, 1) := by decide +kernel
theorem dP_next_116 : decode cP_next 116 = .ok (.ishr, 1) := by decide +kernel
theorem dP_next_117 : decode cP_next 117 = .ok (.bipush 7, 2) := by decide +kernel
theorem dP_next_119 : decode cP_next 119 = .ok (.iand, 1) := by decide +kernel
theorem dP_next_120 : decode cP_next 120 = .ok (.istore_n 3, 1) := by decide +kernel
theorem dP_next_121 : decode cP_next 121 = .ok (.iload_n 2, 1) := by decide +kernel
theorem dP_next_122 : decode cP_next 122 = .ok (.bipush 7, 2) := by decide +kernel
theorem dP_next_124 : decode cP_next 124 = .ok (.iand, 1) := by decide +kernel
theorem dP_next_125 : decode cP_next 125 = .ok (.istore 4, 2) := by decide +kernel
theorem dP_next_127 : decode cP_next 127 = .ok (.iload_n 2, 1) := by decide +kernel
theorem dP_next_128 : decode cP_next 128 = .ok (.sipush 203, 3) := by decide +kernel
theorem dP_next_131 : decode cP_next 131 = .ok (.if_icmp .ne 10, 3) := by decide +kernel
theorem dP_next_134 : decode cP_next 134 = .ok (.aload_n 0, 1) := by decide +kernel
theorem dP_next_135 : decode cP_next 135 = .ok (.invokevirtual 62, 3) := by decide +kernel
theorem dP_next_138 : decode cP_next 138 = .ok (.goto 154, 3) := by decide +kernel
theorem dP_next_141 : decode cP_next 141 = .ok (.iload_n 2, 1) := by decide +kernel
theorem dP_next_142 : decode cP_next 142 = .ok (.sipush 237, 3) := by decide +kernel
theorem dP_next_145 : decode cP_next 145 = .ok (.if_icmp .ne 23, 3) := by decide +kernel
theorem dP_next_148 : decode cP_next 148 = .ok (.aload_n 0, 1) := by decide +kernel
theorem dP_next_149 : decode cP_next 149 = .ok (.getfield 10, 3) := by decide +kernel
theorem dP_next_152 : decode cP_next 152 = .ok (.bipush 6, 2) := by decide +kernel
theorem dP_next_154 : decode cP_next 154 = .ok (.putfield 29, 3) := by decide +kernel
theorem dP_next_157 : decode cP_next 157 = .ok (.aload_n 0, 1) := by decide +kernel
theorem dP_next_158 : decode cP_next 158 = .ok (.aload_n 0, 1) := by decide +kernel
theorem dP_next_159 : decode cP_next 159 = .ok (.invokevirtual 65, 3) := by decide +kernel
theorem dP_next_162 : decode cP_next 162 = .ok (.invokevirtual 68, 3) := by decide +kernel
theorem dP_next_165 : decode cP_next 165 = .ok (.goto 127, 3) := by decide +kernel
theorem dP_next_168 : decode cP_next 168 = .ok (.iload_n 2, 1) := by decide +kernel
theorem dP_next_169 : decode cP_next 169 = .ok (.bipush 118, 2) := by decide +kernel
theorem dP_next_171 : decode cP_next 171 = .ok (.if_icmp .ne 14, 3) := by decide +kernel
theorem dP_next_174 : decode cP_next 174 = .ok (.aload_n 0, 1) := by decide +kernel
theorem dP_next_175 : decode cP_next 175 = .ok (.getfield 20, 3) := by decide +kernel
theorem dP_next_178 : decode cP_next 178 = .ok (.bipush 25, 2) := by decide +kernel
theorem dP_next_180 : decode cP_next 180 = .ok (.iconst 1, 1) := by decide +kernel
theorem dP_next_181 : decode cP_next 181 = .ok (.iastore, 1) := by decide +kernel
theorem dP_next_182 : decode cP_next 182 = .ok (.goto 110, 3) := by decide +kernel
theorem dP_next_185 : decode cP_next 185 = .ok (.iload_n 2, 1) := by decide +kernel
theorem dP_next_186 : decode cP_next 186 = .ok (.bipush 64, 2) := by decide +kernel
theorem dP_next_188 : decode cP_next 188 = .ok (.if_icmp .ge 13, 3) := by decide +kernel
theorem dP_next_191 : decode cP_next 191 = .ok (.aload_n 0, 1) := by decide +kernel
theorem dP_next_192 : decode cP_next 192 = .ok (.iload_n 3, 1) := by decide +kernel
theorem dP_next_193 : decode cP_next 193 = .ok (.iload 4, 2) := by decide +kernel
theorem dP_next_195 : decode cP_next 195 = .ok (.invokevirtual 72, 3) := by decide +kernel
theorem dP_next_198 : decode cP_next 198 = .ok (.goto 94, 3) := by decide +kernel
theorem dP_next_201 : decode cP_next 201 = .ok (.iload_n 2, 1) := by decide +kernel
theorem dP_next_202 : decode cP_next 202 = .ok (.sipush 128, 3) := by decide +kernel
theorem dP_next_205 : decode cP_next 205 = .ok (.if_icmp .ge 17, 3) := by decide +kernel
theorem dP_next_208 : decode cP_next 208 = .ok (.aload_n 0, 1) := by decide +kernel
theorem dP_next_209 : decode cP_next 209 = .ok (.iload_n 3, 1) := by decide +kernel
theorem dP_next_210 : decode cP_next 210 = .ok (.aload_n 0, 1) := by decide +kernel
theorem dP_next_211 : decode cP_next 211 = .ok (.iload 4, 2) := by decide +kernel
theorem dP_next_213 : decode cP_next 213 = .ok (.invokevirtual 76, 3) := by decide +kernel
theorem dP_next_216 : decode cP_next 216 = .ok (.invokevirtual 79, 3) := by decide +kernel
theorem dP_next_219 : decode cP_next 219 = .ok (.goto 73, 3) := by decide +kernel
theorem dP_next_222 : decode cP_next 222 = .ok (.iload_n 2, 1) := by decide +kernel
theorem dP_next_223 : decode cP_next 223 = .ok (.sipush 192, 3) := by decide +kernel
theorem dP_next_226 : decode cP_next 226 = .ok (.if_icmp .ge 17, 3) := by decide +kernel
theorem dP_next_229 : decode cP_next 229 = .ok (.aload_n 0, 1) := by decide +kernel
theorem dP_next_230 : decode cP_next 230 = .ok (.iload_n 3, 1) := by decide +kernel
theorem dP_next_231 : decode cP_next 231 = .ok (.aload_n 0, 1) := by decide +kernel
theorem dP_next_232 : decode cP_next 232 = .ok (.iload 4, 2) := by decide +kernel
theorem dP_next_234 : decode cP_next 234 = .ok (.invokevirtual 76, 3) := by decide +kernel
theorem dP_next_237 : decode cP_next 237 = .ok (.invokevirtual 82, 3) := by decide +kernel
theorem dP_next_240 : decode cP_next 240 = .ok (.goto 52, 3) := by decide +kernel
theorem dP_next_243 : decode cP_next 243 = .ok (.iload 4, 2) := by decide +kernel
theorem dP_next_245 : decode cP_next 245 = .ok (.iconst 1, 1) := by decide +kernel
theorem dP_next_246 : decode cP_next 246 = .ok (.if_icmp .ne 11, 3) := by decide +kernel
theorem dP_next_249 : decode cP_next 249 = .ok (.aload_n 0, 1) := by decide +kernel
theorem dP_next_250 : decode cP_next 250 = .ok (.iload_n 3, 1) := by decide +kernel
theorem dP_next_251 : decode cP_next 251 = .ok (.invokevirtual 85, 3) := by decide +kernel
theorem dP_next_254 : decode cP_next 254 = .ok (.goto 38, 3) := by decide +kernel
theorem dP_next_257 : decode cP_next 257 = .ok (.iload 4, 2) := by decide +kernel
theorem dP_next_259 : decode cP_next 259 = .ok (.iconst 3, 1) := by decide +kernel
theorem dP_next_260 : decode cP_next 260 = .ok (.if_icmp .ne 11, 3) := by decide +kernel
theorem dP_next_263 : decode cP_next 263 = .ok (.aload_n 0, 1) := by decide +kernel
theorem dP_next_264 : decode cP_next 264 = .ok (.iload_n 3, 1) := by decide +kernel
theorem dP_next_265 : decode cP_next 265 = .ok (.invokevirtual 88, 3) := by decide +kernel
theorem dP_next_268 : decode cP_next 268 = .ok (.goto 24, 3) := by decide +kernel
theorem dP_next_271 : decode cP_next 271 = .ok (.iload 4, 2) := by decide +kernel
theorem dP_next_273 : decode cP_next 273 = .ok (.iconst 5, 1) := by decide +kernel
theorem dP_next_274 : decode cP_next 274 = .ok (.if_icmp .ne 11, 3) := by decide +kernel
theorem dP_next_277 : decode cP_next 277 = .ok (.aload_n 0, 1) := by decide +kernel
theorem dP_next_278 : decode cP_next 278 = .ok (.iload_n 3, 1) := by decide +kernel
theorem dP_next_279 : decode cP_next 279 = .ok (.invokevirtual 91, 3) := by decide +kernel
theorem dP_next_282 : decode cP_next 282 = .ok (.goto 10, 3) := by decide +kernel
theorem dP_next_285 : decode cP_next 285 = .ok (.aload_n 0, 1) := by decide +kernel
theorem dP_next_286 : decode cP_next 286 = .ok (.iload_n 3, 1) := by decide +kernel
theorem dP_next_287 : decode cP_next 287 = .ok (.iload 4, 2) := by decide +kernel
theorem dP_next_289 : decode cP_next 289 = .ok (.invokevirtual 94, 3) := by decide +kernel
theorem dP_next_292 : decode cP_next 292 = .ok (.return_, 1) := by decide +kernel
theorem dP_takeInterrupt_0 : decode cP_takeInterrupt 0 = .ok (.aload_n 0, 1) := by decide +kernel
theorem dP_takeInterrupt_1 : decode cP_takeInterrupt 1 = .ok (.getfield 20, 3) := by decide +kernel
theorem dP_takeInterrupt_4 : decode cP_takeInterrupt 4 = .ok (.bipush 25, 2) := by decide +kernel
theorem dP_takeInterrupt_6 : decode cP_takeInterrupt 6 = .ok (.iconst 0, 1) := by decide +kernel
theorem dP_takeInterrupt_7 : decode cP_takeInterrupt 7 = .ok (.iastore, 1) := by decide +kernel
theorem dP_takeInterrupt_8 : decode cP_takeInterrupt 8 = .ok (.aload_n 0, 1) := by decide +kernel
theorem dP_takeInterrupt_9 : decode cP_takeInterrupt 9 = .ok (.getfield 20, 3) := by decide +kernel
theorem dP_takeInterrupt_12 : decode cP_takeInterrupt 12 = .ok (.bipush 22, 2) := by decide +kernel
theorem dP_takeInterrupt_14 : decode cP_takeInterrupt 14 = .ok (.iconst 0, 1) := by decide +kernel
theorem dP_takeInterrupt_15 : decode cP_takeInterrupt 15 = .ok (.iastore, 1) := by decide +kernel
theorem dP_takeInterrupt_16 : decode cP_takeInterrupt 16 = .ok (.aload_n 0, 1) := by decide +kernel
theorem dP_takeInterrupt_17 : decode cP_takeInterrupt 17 = .ok (.getfield 20, 3) := by decide +kernel
theorem dP_takeInterrupt_20 : decode cP_takeInterrupt 20 = .ok (.bipush 23, 2) := by decide +kernel
theorem dP_takeInterrupt_22 : decode cP_takeInterrupt 22 = .ok (.iconst 0, 1) := by decide +kernel
theorem dP_takeInterrupt_23 : decode cP_takeInterrupt 23 = .ok (.iastore, 1) := by decide +kernel
theorem dP_takeInterrupt_24 : decode cP_takeInterrupt 24 = .ok (.aload_n 0, 1) := by decide +kernel
theorem dP_takeInterrupt_25 : decode cP_takeInterrupt 25 = .ok (.invokevirtual 46, 3) := by decide +kernel
theorem dP_takeInterrupt_28 : decode cP_takeInterrupt 28 = .ok (.aload_n 0, 1) := by decide +kernel
theorem dP_takeInterrupt_29 : decode cP_takeInterrupt 29 = .ok (.getfield 21, 3) := by decide +kernel
theorem dP_takeInterrupt_32 : decode cP_takeInterrupt 32 = .ok (.iconst 4, 1) := by decide +kernel
theorem dP_takeInterrupt_33 : decode cP_takeInterrupt 33 = .ok (.invokevirtual 97, 3) := by decide +kernel
theorem dP_takeInterrupt_36 : decode cP_takeInterrupt 36 = .ok (.aload_n 0, 1) := by decide +kernel
theorem dP_takeInterrupt_37 : decode cP_takeInterrupt 37 = .ok (.aload_n 0, 1) := by decide +kernel
theorem dP_takeInterrupt_38 : decode cP_takeInterrupt 38 = .ok (.getfield 20, 3) := by decide +kernel
theorem dP_takeInterrupt_41 : decode cP_takeInterrupt 41 = .ok (.bipush 21, 2) := by decide +kernel
theorem dP_takeInterrupt_43 : decode cP_takeInterrupt 43 = .ok (.iaload, 1) := by decide +kernel
theorem dP_takeInterrupt_44 : decode cP_takeInterrupt 44 = .ok (.invokevirtual 100, 3) := by decide +kernel
theorem dP_takeInterrupt_47 : decode cP_takeInterrupt 47 = .ok (.aload_n 0, 1) := by decide +kernel
theorem dP_takeInterrupt_48 : decode cP_takeInterrupt 48 = .ok (.getfield 20, 3) := by decide +kernel
theorem dP_takeInterrupt_51 : decode cP_takeInterrupt 51 = .ok (.bipush 21, 2) := by decide +kernel
theorem dP_takeInterrupt_53 : decode cP_takeInterrupt 53 = .ok (.aload_n 0, 1) := by decide +kernel
theorem dP_takeInterrupt_54 : decode cP_takeInterrupt 54 = .ok (.getfield 20, 3) := by decide +kernel
theorem dP_takeInterrupt_57 : decode cP_takeInterrupt 57 = .ok (.bipush 24, 2) := by decide +kernel
theorem dP_takeInterrupt_59 : decode cP_takeInterrupt 59 = .ok (.iaload, 1) := by decide +kernel
theorem dP_takeInterrupt_60 : decode cP_takeInterrupt 60 = .ok (.iconst 2, 1) := by decide +kernel
theorem dP_takeInterrupt_61 : decode cP_takeInterrupt 61 = .ok (.if_icmp .ne 24, 3) := by decide +kernel
theorem dP_takeInterrupt_64 : decode cP_takeInterrupt 64 = .ok (.aload_n 0, 1) := by decide +kernel
theorem dP_takeInterrupt_65 : decode cP_takeInterrupt 65 = .ok (.aload_n 0, 1) := by decide +kernel
theorem dP_takeInterrupt_66 : decode cP_takeInterrupt 66 = .ok (.getfield 20, 3) := by decide +kernel
theorem dP_takeInterrupt_69 : decode cP_takeInterrupt 69 = .ok (.bipush 16, 2) := by decide +kernel
theorem dP_takeInterrupt_71 : decode cP_takeInterrupt 71 = .ok (.iaload, 1) := by decide +kernel
theorem dP_takeInterrupt_72 : decode cP_takeInterrupt 72 = .ok (.bipush 8, 2) := by decide +kernel
theorem dP_takeInterrupt_74 : decode cP_takeInterrupt 74 = .ok (.ishl, 1) := by decide +kernel
theorem dP_takeInterrupt_75 : decode cP_takeInterrupt 75 = .ok (.sipush 255, 3) := by decide +kernel
theorem dP_takeInterrupt_78 : decode cP_takeInterrupt 78 = .ok (.ior, 1) := by decide +kernel
theorem dP_takeInterrupt_79 : decode cP_takeInterrupt 79 = .ok (.invokevirtual 103, 3) := by decide +kernel
theorem dP_takeInterrupt_82 : decode cP_takeInterrupt 82 = .ok (.goto 5, 3) := by decide +kernel
theorem dP_takeInterrupt_85 : decode cP_takeInterrupt 85 = .ok (.bipush 56, 2) := by decide +kernel
theorem dP_takeInterrupt_87 : decode cP_takeInterrupt 87 = .ok (.iastore, 1) := by decide +kernel
theorem dP_takeInterrupt_88 : decode cP_takeInterrupt 88 = .ok (.return_, 1) := by decide +kernel
theorem dP_refresh_0 : decode cP_refresh 0 = .ok (.aload_n 0, 1) := by decide +kernel
theorem dP_refresh_1 : decode cP_refresh 1 = .ok (.getfield 20, 3) := by decide +kernel
theorem dP_refresh_4 : decode cP_refresh 4 = .ok (.bipush 17, 2) := by decide +kernel
theorem dP_refresh_6 : decode cP_refresh 6 = .ok (.iaload, 1) := by decide +kernel
theorem dP_refresh_7 : decode cP_refresh 7 = .ok (.istore_n 1, 1) := by decide +kernel
theorem dP_refresh_8 : decode cP_refresh 8 = .ok (.aload_n 0, 1) := by decide +kernel
theorem dP_refresh_9 : decode cP_refresh 9 = .ok (.getfield 20, 3) := by decide +kernel
theorem dP_refresh_12 : decode cP_refresh 12 = .ok (.bipush 17, 2) := by decide +kernel
theorem dP_refresh_14 : decode cP_refresh 14 = .ok (.iload_n 1, 1) := by decide +kernel
theorem dP_refresh_15 : decode cP_refresh 15 = .ok (.sipush 128, 3) := by decide +kernel
theorem dP_refresh_18 : decode cP_refresh 18 = .ok (.iand, 1) := by decide +kernel
theorem dP_refresh_19 : decode cP_refresh 19 = .ok (.iload_n 1, 1) := by decide +kernel
theorem dP_refresh_20 : decode cP_refresh 20 = .ok (.iconst 1, 1) := by decide +kernel
theorem dP_refresh_21 : decode cP_refresh 21 = .ok (.iadd, 1) := by decide +kernel
theorem dP_refresh_22 : decode cP_refresh 22 = .ok (.bipush 127, 2) := by decide +kernel
theorem dP_refresh_24 : decode cP_refresh 24 = .ok (.iand, 1) := by decide +kernel
theorem dP_refresh_25 : decode cP_refresh 25 = .ok (.ior, 1) := by decide +kernel
theorem dP_refresh_26 : decode cP_refresh 26 = .ok (.iastore, 1) := by decide +kernel
theorem dP_refresh_27 : decode cP_refresh 27 = .ok (.return_, 1) := by decide +kernel
theorem dP_fetch_0 : decode cP_fetch 0 = .ok (.aload_n 0, 1) := by decide +kernel
theorem dP_fetch_1 : decode cP_fetch 1 = .ok (.getfield 21, 3) := by decide +kernel
theorem dP_fetch_4 : decode cP_fetch 4 = .ok (.aload_n 0, 1) := by decide +kernel
theorem dP_fetch_5 : decode cP_fetch 5 = .ok (.getfield 20, 3) := by decide +kernel
theorem dP_fetch_8 : decode cP_fetch 8 = .ok (.bipush 21, 2) := by decide +kernel
theorem dP_fetch_10 : decode cP_fetch 10 = .ok (.iaload, 1) := by decide +kernel
theorem dP_fetch_11 : decode cP_fetch 11 = .ok (.invokevirtual 42, 3) := by decide +kernel
theorem dP_fetch_14 : decode cP_fetch 14 = .ok (.istore_n 1, 1) := by decide +kernel
theorem dP_fetch_15 : decode cP_fetch 15 = .ok (.aload_n 0, 1) := by decide +kernel
theorem dP_fetch_16 : decode cP_fetch 16 = .ok (.iconst 1, 1) := by decide +kernel
theorem dP_fetch_17 : decode cP_fetch 17 = .ok (.invokevirtual 106, 3) := by decide +kernel
theorem dP_fetch_20 : decode cP_fetch 20 = .ok (.aload_n 0, 1) := by decide +kernel
theorem dP_fetch_21 : decode cP_fetch 21 = .ok (.invokevirtual 46, 3) := by decide +kernel
theorem dP_fetch_24 : decode cP_fetch 24 = .ok (.iload_n 1, 1) := by decide +kernel
theorem dP_fetch_25 : decode cP_fetch 25 = .ok (.ireturn, 1) := by decide +kernel
theorem dP_fetchBehindPrefixes_0 : decode cP_fetchBehindPrefixes 0 = .ok (.aload_n 0, 1) := by decide +kernel
theorem dP_fetchBehindPrefixes_1 : decode cP_fetchBehindPrefixes 1 = .ok (.invokevirtual 65, 3) := by decide +kernel
theorem dP_fetchBehindPrefixes_4 : decode cP_fetchBehindPrefixes 4 = .ok (.istore_n 1, 1) := by decide +kernel
theorem dP_fetchBehindPrefixes_5 : decode cP_fetchBehindPrefixes 5 = .ok (.iconst 0, 1) := by decide +kernel
theorem dP_fetchBehindPrefixes_6 : decode cP_fetchBehindPrefixes 6 = .ok (.istore_n 2, 1) := by decide +kernel
theorem dP_fetchBehindPrefixes_7 : decode cP_fetchBehindPrefixes 7 = .ok (.iload_n 2, 1) := by decide +kernel
theorem dP_fetchBehindPrefixes_8 : decode cP_fetchBehindPrefixes 8 = .ok (.iconst 3, 1) := by decide +kernel
theorem dP_fetchBehindPrefixes_9 : decode cP_fetchBehindPrefixes 9 = .ok (.if_icmp .ge 42, 3) := by decide +kernel
theorem dP_fetchBehindPrefixes_12 : decode cP_fetchBehindPrefixes 12 = .ok (.iload_n 1, 1) := by decide +kernel
theorem dP_fetchBehindPrefixes_13 : decode cP_fetchBehindPrefixes 13 = .ok (.invokestatic 52, 3) := by decide +kernel
theorem dP_fetchBehindPrefixes_16 : decode cP_fetchBehindPrefixes 16 = .ok (.ifCond .eq 35, 3) := by decide +kernel
theorem dP_fetchBehindPrefixes_19 : decode cP_fetchBehindPrefixes 19 = .ok (.aload_n 0, 1) := by decide +kernel
theorem dP_fetchBehindPrefixes_20 : decode cP_fetchBehindPrefixes 20 = .ok (.getfield 10, 3) := by decide +kernel
theorem dP_fetchBehindPrefixes_23 : decode cP_fetchBehindPrefixes 23 = .ok (.iload_n 1, 1) := by decide +kernel
theorem dP_fetchBehindPrefixes_24 : decode cP_fetchBehindPrefixes 24 = .ok (.sipush 221, 3) := by decide +kernel
theorem dP_fetchBehindPrefixes_27 : decode cP_fetchBehindPrefixes 27 = .ok (.if_icmp .ne 8, 3) := by decide +kernel
theorem dP_fetchBehindPrefixes_30 : decode cP_fetchBehindPrefixes 30 = .ok (.bipush 18, 2) := by decide +kernel
theorem dP_fetchBehindPrefixes_32 : decode cP_fetchBehindPrefixes 32 = .ok (.goto 5, 3) := by decide +kernel
theorem dP_fetchBehindPrefixes_35 : decode cP_fetchBehindPrefixes 35 = .ok (.bipush 19, 2) := by decide +kernel
theorem dP_fetchBehindPrefixes_37 : decode cP_fetchBehindPrefixes 37 = .ok (.putfield 29, 3) := by decide +kernel
theorem dP_fetchBehindPrefixes_40 : decode cP_fetchBehindPrefixes 40 = .ok (.aload_n 0, 1) := by decide +kernel
theorem dP_fetchBehindPrefixes_41 : decode cP_fetchBehindPrefixes 41 = .ok (.invokevirtual 65, 3) := by decide +kernel
theorem dP_fetchBehindPrefixes_44 : decode cP_fetchBehindPrefixes 44 = .ok (.istore_n 1, 1) := by decide +kernel
theorem dP_fetchBehindPrefixes_45 : decode cP_fetchBehindPrefixes 45 = .ok (.iinc 2 1, 3) := by decide +kernel
theorem dP_fetchBehindPrefixes_48 : decode cP_fetchBehindPrefixes 48 = .ok (.goto (-41), 3) := by decide +kernel
theorem dP_fetchBehindPrefixes_51 : decode cP_fetchBehindPrefixes 51 = .ok (.iload_n 1, 1) := by decide +kernel
theorem dP_fetchBehindPrefixes_52 : decode cP_fetchBehindPrefixes 52 = .ok (.ireturn, 1) := by decide +kernel
theorem dP_isPrefix_0 : decode cP_isPrefix 0 = .ok (.iload_n 0, 1) := by decide +kernel
theorem dP_isPrefix_1 : decode cP_isPrefix 1 = .ok (.sipush 221, 3) := by decide +kernel
theorem dP_isPrefix_4 : decode cP_isPrefix 4 = .ok (.if_icmp .eq 10, 3) := by decide +kernel
theorem dP_isPrefix_7 : decode cP_isPrefix 7 = .ok (.iload_n 0, 1) := by decide +kernel
theorem dP_isPrefix_8 : decode cP_isPrefix 8 = .ok (.sipush 253, 3) := by decide +kernel
theorem dP_isPrefix_11 : decode cP_isPrefix 11 = .ok (.if_icmp .ne 7, 3) := by decide +kernel
theorem dP_isPrefix_14 : decode cP_isPrefix 14 = .ok (.iconst 1, 1) := by decide +kernel
theorem dP_isPrefix_15 : decode cP_isPrefix 15 = .ok (.goto 4, 3) := by decide +kernel
theorem dP_isPrefix_18 : decode cP_isPrefix 18 = .ok (.iconst 0, 1) := by decide +kernel
theorem dP_isPrefix_19 : decode cP_isPrefix 19 = .ok (.ireturn, 1) := by decide +kernel
theorem dP_hasM_0 : decode cP_hasM 0 = .ok (.iload_n 0, 1) := by decide +kernel
theorem dP_hasM_1 : decode cP_hasM 1 = .ok (.iconst 3, 1) := by decide +kernel
theorem dP_hasM_2 : decode cP_hasM 2 = .ok (.ishr, 1) := by decide +kernel
theorem dP_hasM_3 : decode cP_hasM 3 = .ok (.bipush 7, 2) := by decide +kernel
theorem dP_hasM_5 : decode cP_hasM 5 = .ok (.iand, 1) := by decide +kernel
theorem dP_hasM_6 : decode cP_hasM 6 = .ok (.istore_n 1, 1) := by decide +kernel
theorem dP_hasM_7 : decode cP_hasM 7 = .ok (.iload_n 0, 1) := by decide +kernel
theorem dP_hasM_8 : decode cP_hasM 8 = .ok (.bipush 7, 2) := by decide +kernel
theorem dP_hasM_10 : decode cP_hasM 10 = .ok (.iand, 1) := by decide +kernel
theorem dP_hasM_11 : decode cP_hasM 11 = .ok (.istore_n 2, 1) := by decide +kernel
theorem dP_hasM_12 : decode cP_hasM 12 = .ok (.iload_n 0, 1) := by decide +kernel
theorem dP_hasM_13 : decode cP_hasM 13 = .ok (.bipush 6, 2) := by decide +kernel
theorem dP_hasM_15 : decode cP_hasM 15 = .ok (.ishr, 1) := by decide +kernel
theorem dP_hasM_16 : decode cP_hasM 16 = .ok (.tableswitch 87 0 2 #[28, 51, 75], 28) := by decide +kernel
theorem dP_hasM_44 : decode cP_hasM 44 = .ok (.iload_n 1, 1) := by decide +kernel
theorem dP_hasM_45 : decode cP_hasM 45 = .ok (.bipush 6, 2) := by decide +kernel
theorem dP_hasM_47 : decode cP_hasM 47 = .ok (.if_icmp .ne 18, 3) := by decide +kernel
theorem dP_hasM_50 : decode cP_hasM 50 = .ok (.iload_n 2, 1) := by decide +kernel
theorem dP_hasM_51 : decode cP_hasM 51 = .ok (.iconst 4, 1) := by decide +kernel
theorem dP_hasM_52 : decode cP_hasM 52 = .ok (.if_icmp .lt 13, 3) := by decide +kernel
theorem dP_hasM_55 : decode cP_hasM 55 = .ok (.iload_n 2, 1) := by decide +kernel
theorem dP_hasM_56 : decode cP_hasM 56 = .ok (.bipush 6, 2) := by decide +kernel
theorem dP_hasM_58 : decode cP_hasM 58 = .ok (.if_icmp .gt 7, 3) := by decide +kernel
theorem dP_hasM_61 : decode cP_hasM 61 = .ok (.iconst 1, 1) := by decide +kernel
theorem dP_hasM_62 : decode cP_hasM 62 = .ok (.goto 4, 3) := by decide +kernel
theorem dP_hasM_65 : decode cP_hasM 65 = .ok (.iconst 0, 1) := by decide +kernel
theorem dP_hasM_66 : decode cP_hasM 66 = .ok (.ireturn, 1) := by decide +kernel
theorem dP_hasM_67 : decode cP_hasM 67 = .ok (.iload_n 1, 1) := by decide +kernel
theorem dP_hasM_68 : decode cP_hasM 68 = .ok (.bipush 6, 2) := by decide +kernel
theorem dP_hasM_70 : decode cP_hasM 70 = .ok (.if_icmp .eq 9, 3) := by decide +kernel
theorem dP_hasM_73 : decode cP_hasM 73 = .ok (.iload_n 2, 1) := by decide +kernel
theorem dP_hasM_74 : decode cP_hasM 74 = .ok (.bipush 6, 2) := by decide +kernel
theorem dP_hasM_76 : decode cP_hasM 76 = .ok (.if_icmp .ne 13, 3) := by decide +kernel
theorem dP_hasM_79 : decode cP_hasM 79 = .ok (.iload_n 0, 1) := by decide +kernel
theorem dP_hasM_80 : decode cP_hasM 80 = .ok (.bipush 118, 2) := by decide +kernel
theorem dP_hasM_82 : decode cP_hasM 82 = .ok (.if_icmp .eq 7, 3) := by decide +kernel
theorem dP_hasM_85 : decode cP_hasM 85 = .ok (.iconst 1, 1) := by decide +kernel
theorem dP_hasM_86 : decode cP_hasM 86 = .ok (.goto 4, 3) := by decide +kernel
theorem dP_hasM_89 : decode cP_hasM 89 = .ok (.iconst 0, 1) := by decide +kernel
theorem dP_hasM_90 : decode cP_hasM 90 = .ok (.ireturn, 1) := by decide +kernel
theorem dP_hasM_91 : decode cP_hasM 91 = .ok (.iload_n 2, 1) := by decide +kernel
theorem dP_hasM_92 : decode cP_hasM 92 = .ok (.bipush 6, 2) := by decide +kernel
theorem dP_hasM_94 : decode cP_hasM 94 = .ok (.if_icmp .ne 7, 3) := by decide +kernel
theorem dP_hasM_97 : decode cP_hasM 97 = .ok (.iconst 1, 1) := by decide +kernel
theorem dP_hasM_98 : decode cP_hasM 98 = .ok (.goto 4, 3) := by decide +kernel
theorem dP_hasM_101 : decode cP_hasM 101 = .ok (.iconst 0, 1) := by decide +kernel
theorem dP_hasM_102 : decode cP_hasM 102 = .ok (.ireturn, 1) := by decide +kernel
theorem dP_hasM_103 : decode cP_hasM 103 = .ok (.iconst 0, 1) := by decide +kernel
theorem dP_hasM_104 : decode cP_hasM 104 = .ok (.ireturn, 1) := by decide +kernel
theorem dP_findM_0 : decode cP_findM 0 = .ok (.aload_n 0, 1) := by decide +kernel
theorem dP_findM_1 : decode cP_findM 1 = .ok (.aload_n 0, 1) := by decide +kernel
theorem dP_findM_2 : decode cP_findM 2 = .ok (.getfield 10, 3) := by decide +kernel
theorem dP_findM_5 : decode cP_findM 5 = .ok (.invokevirtual 109, 3) := by decide +kernel
theorem dP_findM_8 : decode cP_findM 8 = .ok (.putfield 112, 3) := by decide +kernel
theorem dP_findM_11 : decode cP_findM 11 = .ok (.aload_n 0, 1) := by decide +kernel
theorem dP_findM_12 : decode cP_findM 12 = .ok (.getfield 10, 3) := by decide +kernel
theorem dP_findM_15 : decode cP_findM 15 = .ok (.getfield 29, 3) := by decide +kernel
theorem dP_findM_18 : decode cP_findM 18 = .ok (.bipush 6, 2) := by decide +kernel
theorem dP_findM_20 : decode cP_findM 20 = .ok (.if_icmp .eq 29, 3) := by decide +kernel
theorem dP_findM_23 : decode cP_findM 23 = .ok (.aload_n 0, 1) := by decide +kernel
theorem dP_findM_24 : decode cP_findM 24 = .ok (.aload_n 0, 1) := by decide +kernel
theorem dP_findM_25 : decode cP_findM 25 = .ok (.getfield 112, 3) := by decide +kernel
theorem dP_findM_28 : decode cP_findM 28 = .ok (.aload_n 0, 1) := by decide +kernel
theorem dP_findM_29 : decode cP_findM 29 = .ok (.invokevirtual 115, 3) := by decide +kernel
theorem dP_findM_32 : decode cP_findM 32 = .ok (.i2b, 1) := by decide +kernel
theorem dP_findM_33 : decode cP_findM 33 = .ok (.iadd, 1) := by decide +kernel
theorem dP_findM_34 : decode cP_findM 34 = .ok (.ldc 118, 2) := by decide +kernel
theorem dP_findM_36 : decode cP_findM 36 = .ok (.iand, 1) := by decide +kernel
theorem dP_findM_37 : decode cP_findM 37 = .ok (.putfield 112, 3) := by decide +kernel
theorem dP_findM_40 : decode cP_findM 40 = .ok (.aload_n 0, 1) := by decide +kernel
theorem dP_findM_41 : decode cP_findM 41 = .ok (.getfield 10, 3) := by decide +kernel
theorem dP_findM_44 : decode cP_findM 44 = .ok (.bipush 6, 2) := by decide +kernel
theorem dP_findM_46 : decode cP_findM 46 = .ok (.putfield 29, 3) := by decide +kernel
theorem dP_findM_49 : decode cP_findM 49 = .ok (.return_, 1) := by decide +kernel
theorem dP_movePc_0 : decode cP_movePc 0 = .ok (.aload_n 0, 1) := by decide +kernel
theorem dP_movePc_1 : decode cP_movePc 1 = .ok (.getfield 20, 3) := by decide +kernel
theorem dP_movePc_4 : decode cP_movePc 4 = .ok (.bipush 21, 2) := by decide +kernel
theorem dP_movePc_6 : decode cP_movePc 6 = .ok (.aload_n 0, 1) := by decide +kernel
theorem dP_movePc_7 : decode cP_movePc 7 = .ok (.getfield 20, 3) := by decide +kernel
theorem dP_movePc_10 : decode cP_movePc 10 = .ok (.bipush 21, 2) := by decide +kernel
theorem dP_movePc_12 : decode cP_movePc 12 = .ok (.iaload, 1) := by decide +kernel
theorem dP_movePc_13 : decode cP_movePc 13 = .ok (.iload_n 1, 1) := by decide +kernel
theorem dP_movePc_14 : decode cP_movePc 14 = .ok (.iadd, 1) := by decide +kernel
theorem dP_movePc_15 : decode cP_movePc 15 = .ok (.ldc 118, 2) := by decide +kernel
theorem dP_movePc_17 : decode cP_movePc 17 = .ok (.iand, 1) := by decide +kernel
theorem dP_movePc_18 : decode cP_movePc 18 = .ok (.iastore, 1) := by decide +kernel
theorem dP_movePc_19 : decode cP_movePc 19 = .ok (.return_, 1) := by decide +kernel
theorem dP_nextByte_0 : decode cP_nextByte 0 = .ok (.aload_n 0, 1) := by decide +kernel
theorem dP_nextByte_1 : decode cP_nextByte 1 = .ok (.getfield 21, 3) := by decide +kernel
theorem dP_nextByte_4 : decode cP_nextByte 4 = .ok (.aload_n 0, 1) := by decide +kernel
theorem dP_nextByte_5 : decode cP_nextByte 5 = .ok (.getfield 20, 3) := by decide +kernel
theorem dP_nextByte_8 : decode cP_nextByte 8 = .ok (.bipush 21, 2) := by decide +kernel
theorem dP_nextByte_10 : decode cP_nextByte 10 = .ok (.iaload, 1) := by decide +kernel
theorem dP_nextByte_11 : decode cP_nextByte 11 = .ok (.invokevirtual 119, 3) := by decide +kernel
theorem dP_nextByte_14 : decode cP_nextByte 14 = .ok (.istore_n 1, 1) := by decide +kernel
theorem dP_nextByte_15 : decode cP_nextByte 15 = .ok (.aload_n 0, 1) := by decide +kernel
theorem dP_nextByte_16 : decode cP_nextByte 16 = .ok (.iconst 1, 1) := by decide +kernel
theorem dP_nextByte_17 : decode cP_nextByte 17 = .ok (.invokevirtual 106, 3) := by decide +kernel
theorem dP_nextByte_20 : decode cP_nextByte 20 = .ok (.iload_n 1, 1) := by decide +kernel
theorem dP_nextByte_21 : decode cP_nextByte 21 = .ok (.ireturn, 1) := by decide +kernel
theorem dP_nextWord_0 : decode cP_nextWord 0 = .ok (.aload_n 0, 1) := by decide +kernel
theorem dP_nextWord_1 : decode cP_nextWord 1 = .ok (.getfield 21, 3) := by decide +kernel
theorem dP_nextWord_4 : decode cP_nextWord 4 = .ok (.aload_n 0, 1) := by decide +kernel
theorem dP_nextWord_5 : decode cP_nextWord 5 = .ok (.getfield 20, 3) := by decide +kernel
theorem dP_nextWord_8 : decode cP_nextWord 8 = .ok (.bipush 21, 2) := by decide +kernel
theorem dP_nextWord_10 : decode cP_nextWord 10 = .ok (.iaload, 1) := by decide +kernel
theorem dP_nextWord_11 : decode cP_nextWord 11 = .ok (.invokevirtual 119, 3) := by decide +kernel
theorem dP_nextWord_14 : decode cP_nextWord 14 = .ok (.istore_n 1, 1) := by decide +kernel
theorem dP_nextWord_15 : decode cP_nextWord 15 = .ok (.aload_n 0, 1) := by decide +kernel
theorem dP_nextWord_16 : decode cP_nextWord 16 = .ok (.getfield 21, 3) := by decide +kernel
theorem dP_nextWord_19 : decode cP_nextWord 19 = .ok (.aload_n 0, 1) := by decide +kernel
theorem dP_nextWord_20 : decode cP_nextWord 20 = .ok (.getfield 20, 3) := by decide +kernel
theorem dP_nextWord_23 : decode cP_nextWord 23 = .ok (.bipush 21, 2) := by decide +kernel
theorem dP_nextWord_25 : decode cP_nextWord 25 = .ok (.iaload, 1) := by decide +kernel
theorem dP_nextWord_26 : decode cP_nextWord 26 = .ok (.iconst 1, 1) := by decide +kernel
theorem dP_nextWord_27 : decode cP_nextWord 27 = .ok (.iadd, 1) := by decide +kernel
theorem dP_nextWord_28 : decode cP_nextWord 28 = .ok (.invokevirtual 119, 3) := by decide +kernel
theorem dP_nextWord_31 : decode cP_nextWord 31 = .ok (.istore_n 2, 1) := by decide +kernel
theorem dP_nextWord_32 : decode cP_nextWord 32 = .ok (.aload_n 0, 1) := by decide +kernel
theorem dP_nextWord_33 : decode cP_nextWord 33 = .ok (.iconst 2, 1) := by decide +kernel
theorem dP_nextWord_34 : decode cP_nextWord 34 = .ok (.invokevirtual 106, 3) := by decide +kernel
theorem dP_nextWord_37 : decode cP_nextWord 37 = .ok (.iload_n 2, 1) := by decide +kernel
theorem dP_nextWord_38 : decode cP_nextWord 38 = .ok (.bipush 8, 2) := by decide +kernel
theorem dP_nextWord_40 : decode cP_nextWord 40 = .ok (.ishl, 1) := by decide +kernel
theorem dP_nextWord_41 : decode cP_nextWord 41 = .ok (.iload_n 1, 1) := by decide +kernel
theorem dP_nextWord_42 : decode cP_nextWord 42 = .ok (.ior, 1) := by decide +kernel
theorem dP_nextWord_43 : decode cP_nextWord 43 = .ok (.ireturn, 1) := by decide +kernel
theorem dP_readWord_0 : decode cP_readWord 0 = .ok (.aload_n 0, 1) := by decide +kernel
theorem dP_readWord_1 : decode cP_readWord 1 = .ok (.getfield 21, 3) := by decide +kernel
theorem dP_readWord_4 : decode cP_readWord 4 = .ok (.iload_n 1, 1) := by decide +kernel
theorem dP_readWord_5 : decode cP_readWord 5 = .ok (.invokevirtual 119, 3) := by decide +kernel
theorem dP_readWord_8 : decode cP_readWord 8 = .ok (.istore_n 2, 1) := by decide +kernel
theorem dP_readWord_9 : decode cP_readWord 9 = .ok (.iload_n 2, 1) := by decide +kernel
theorem dP_readWord_10 : decode cP_readWord 10 = .ok (.aload_n 0, 1) := by decide +kernel
theorem dP_readWord_11 : decode cP_readWord 11 = .ok (.getfield 21, 3) := by decide +kernel
theorem dP_readWord_14 : decode cP_readWord 14 = .ok (.iload_n 1, 1) := by decide +kernel
theorem dP_readWord_15 : decode cP_readWord 15 = .ok (.iconst 1, 1) := by decide +kernel
theorem dP_readWord_16 : decode cP_readWord 16 = .ok (.iadd, 1) := by decide +kernel
theorem dP_readWord_17 : decode cP_readWord 17 = .ok (.invokevirtual 119, 3) := by decide +kernel
theorem dP_readWord_20 : decode cP_readWord 20 = .ok (.bipush 8, 2) := by decide +kernel
theorem dP_readWord_22 : decode cP_readWord 22 = .ok (.ishl, 1) := by decide +kernel
theorem dP_readWord_23 : decode cP_readWord 23 = .ok (.ior, 1) := by decide +kernel
theorem dP_readWord_24 : decode cP_readWord 24 = .ok (.ireturn, 1) := by decide +kernel
theorem dP_writeWord_0 : decode cP_writeWord 0 = .ok (.aload_n 0, 1) := by decide +kernel
theorem dP_writeWord_1 : decode cP_writeWord 1 = .ok (.getfield 21, 3) := by decide +kernel
theorem dP_writeWord_4 : decode cP_writeWord 4 = .ok (.iload_n 1, 1) := by decide +kernel
theorem dP_writeWord_5 : decode cP_writeWord 5 = .ok (.iload_n 2, 1) := by decide +kernel
theorem dP_writeWord_6 : decode cP_writeWord 6 = .ok (.invokevirtual 122, 3) := by decide +kernel
theorem dP_writeWord_9 : decode cP_writeWord 9 = .ok (.aload_n 0, 1) := by decide +kernel
theorem dP_writeWord_10 : decode cP_writeWord 10 = .ok (.getfield 21, 3) := by decide +kernel
theorem dP_writeWord_13 : decode cP_writeWord 13 = .ok (.iload_n 1, 1) := by decide +kernel
theorem dP_writeWord_14 : decode cP_writeWord 14 = .ok (.iconst 1, 1) := by decide +kernel
theorem dP_writeWord_15 : decode cP_writeWord 15 = .ok (.iadd, 1) := by decide +kernel
theorem dP_writeWord_16 : decode cP_writeWord 16 = .ok (.iload_n 2, 1) := by decide +kernel
theorem dP_writeWord_17 : decode cP_writeWord 17 = .ok (.bipush 8, 2) := by decide +kernel
theorem dP_writeWord_19 : decode cP_writeWord 19 = .ok (.ishr, 1) := by decide +kernel
theorem dP_writeWord_20 : decode cP_writeWord 20 = .ok (.invokevirtual 122, 3) := by decide +kernel
theorem dP_writeWord_23 : decode cP_writeWord 23 = .ok (.return_, 1) := by decide +kernel
theorem dP_operand_0 : decode cP_operand 0 = .ok (.iload_n 1, 1) := by decide +kernel
theorem dP_operand_1 : decode cP_operand 1 = .ok (.bipush 6, 2) := by decide +kernel
theorem dP_operand_3 : decode cP_operand 3 = .ok (.if_icmp .ne 17, 3) := by decide +kernel
theorem dP_operand_6 : decode cP_operand 6 = .ok (.aload_n 0, 1) := by decide +kernel
theorem dP_operand_7 : decode cP_operand 7 = .ok (.getfield 21, 3) := by decide +kernel
theorem dP_operand_10 : decode cP_operand 10 = .ok (.aload_n 0, 1) := by decide +kernel
theorem dP_operand_11 : decode cP_operand 11 = .ok (.getfield 112, 3) := by decide +kernel
theorem dP_operand_14 : decode cP_operand 14 = .ok (.invokevirtual 119, 3) := by decide +kernel
theorem dP_operand_17 : decode cP_operand 17 = .ok (.goto 11, 3) := by decide +kernel
theorem dP_operand_20 : decode cP_operand 20 = .ok (.aload_n 0, 1) := by decide +kernel
theorem dP_operand_21 : decode cP_operand 21 = .ok (.getfield 10, 3) := by decide +kernel
theorem dP_operand_24 : decode cP_operand 24 = .ok (.iload_n 1, 1) := by decide +kernel
theorem dP_operand_25 : decode cP_operand 25 = .ok (.invokevirtual 125, 3) := by decide +kernel
theorem dP_operand_28 : decode cP_operand 28 = .ok (.ireturn, 1) := by decide +kernel
theorem dP_setOperand_0 : decode cP_setOperand 0 = .ok (.iload_n 1, 1) := by decide +kernel
theorem dP_setOperand_1 : decode cP_setOperand 1 = .ok (.bipush 6, 2) := by decide +kernel
theorem dP_setOperand_3 : decode cP_setOperand 3 = .ok (.if_icmp .ne 18, 3) := by decide +kernel
theorem dP_setOperand_6 : decode cP_setOperand 6 = .ok (.aload_n 0, 1) := by decide +kernel
theorem dP_setOperand_7 : decode cP_setOperand 7 = .ok (.getfield 21, 3) := by decide +kernel
theorem dP_setOperand_10 : decode cP_setOperand 10 = .ok (.aload_n 0, 1) := by decide +kernel
theorem dP_setOperand_11 : decode cP_setOperand 11 = .ok (.getfield 112, 3) := by decide +kernel
theorem dP_setOperand_14 : decode cP_setOperand 14 = .ok (.iload_n 2, 1) := by decide +kernel
theorem dP_setOperand_15 : decode cP_setOperand 15 = .ok (.invokevirtual 122, 3) := by decide +kernel
theorem dP_setOperand_18 : decode cP_setOperand 18 = .ok (.goto 12, 3) := by decide +kernel
theorem dP_setOperand_21 : decode cP_setOperand 21 = .ok (.aload_n 0, 1) := by decide +kernel
theorem dP_setOperand_22 : decode cP_setOperand 22 = .ok (.getfield 10, 3) := by decide +kernel
theorem dP_setOperand_25 : decode cP_setOperand 25 = .ok (.iload_n 1, 1) := by decide +kernel
theorem dP_setOperand_26 : decode cP_setOperand 26 = .ok (.iload_n 2, 1) := by decide +kernel
theorem dP_setOperand_27 : decode cP_setOperand 27 = .ok (.invokevirtual 128, 3) := by decide +kernel
theorem dP_setOperand_30 : decode cP_setOperand 30 = .ok (.return_, 1) := by decide +kernel
theorem dP_push_0 : decode cP_push 0 = .ok (.aload_n 0, 1) := by decide +kernel
theorem dP_push_1 : decode cP_push 1 = .ok (.getfield 20, 3) := by decide +kernel
theorem dP_push_4 : decode cP_push 4 = .ok (.bipush 20, 2) := by decide +kernel
theorem dP_push_6 : decode cP_push 6 = .ok (.aload_n 0, 1) := by decide +kernel
theorem dP_push_7 : decode cP_push 7 = .ok (.getfield 20, 3) := by decide +kernel
theorem dP_push_10 : decode cP_push 10 = .ok (.bipush 20, 2) := by decide +kernel
theorem dP_push_12 : decode cP_push 12 = .ok (.iaload, 1) := by decide +kernel
theorem dP_push_13 : decode cP_push 13 = .ok (.iconst 1, 1) := by decide +kernel
theorem dP_push_14 : decode cP_push 14 = .ok (.isub, 1) := by decide +kernel
theorem dP_push_15 : decode cP_push 15 = .ok (.ldc 118, 2) := by decide +kernel
theorem dP_push_17 : decode cP_push 17 = .ok (.iand, 1) := by decide +kernel
theorem dP_push_18 : decode cP_push 18 = .ok (.iastore, 1) := by decide +kernel
theorem dP_push_19 : decode cP_push 19 = .ok (.aload_n 0, 1) := by decide +kernel
theorem dP_push_20 : decode cP_push 20 = .ok (.getfield 21, 3) := by decide +kernel
theorem dP_push_23 : decode cP_push 23 = .ok (.aload_n 0, 1) := by decide +kernel
theorem dP_push_24 : decode cP_push 24 = .ok (.getfield 20, 3) := by decide +kernel
theorem dP_push_27 : decode cP_push 27 = .ok (.bipush 20, 2) := by decide +kernel
theorem dP_push_29 : decode cP_push 29 = .ok (.iaload, 1) := by decide +kernel
theorem dP_push_30 : decode cP_push 30 = .ok (.iload_n 1, 1) := by decide +kernel
theorem dP_push_31 : decode cP_push 31 = .ok (.bipush 8, 2) := by decide +kernel
theorem dP_push_33 : decode cP_push 33 = .ok (.ishr, 1) := by decide +kernel
theorem dP_push_34 : decode cP_push 34 = .ok (.invokevirtual 122, 3) := by decide +kernel
theorem dP_push_37 : decode cP_push 37 = .ok (.aload_n 0, 1) := by decide +kernel
theorem dP_push_38 : decode cP_push 38 = .ok (.getfield 20, 3) := by decide +kernel
theorem dP_push_41 : decode cP_push 41 = .ok (.bipush 20, 2) := by decide +kernel
theorem dP_push_43 : decode cP_push 43 = .ok (.aload_n 0, 1) := by decide +kernel
theorem dP_push_44 : decode cP_push 44 = .ok (.getfield 20, 3) := by decide +kernel
theorem dP_push_47 : decode cP_push 47 = .ok (.bipush 20, 2) := by decide +kernel
theorem dP_push_49 : decode cP_push 49 = .ok (.iaload, 1) := by decide +kernel
theorem dP_push_50 : decode cP_push 50 = .ok (.iconst 1, 1) := by decide +kernel
theorem dP_push_51 : decode cP_push 51 = .ok (.isub, 1) := by decide +kernel
theorem dP_push_52 : decode cP_push 52 = .ok (.ldc 118, 2) := by decide +kernel
theorem dP_push_54 : decode cP_push 54 = .ok (.iand, 1) := by decide +kernel
theorem dP_push_55 : decode cP_push 55 = .ok (.iastore, 1) := by decide +kernel
theorem dP_push_56 : decode cP_push 56 = .ok (.aload_n 0, 1) := by decide +kernel
theorem dP_push_57 : decode cP_push 57 = .ok (.getfield 21, 3) := by decide +kernel
theorem dP_push_60 : decode cP_push 60 = .ok (.aload_n 0, 1) := by decide +kernel
theorem dP_push_61 : decode cP_push 61 = .ok (.getfield 20, 3) := by decide +kernel
theorem dP_push_64 : decode cP_push 64 = .ok (.bipush 20, 2) := by decide +kernel
theorem dP_push_66 : decode cP_push 66 = .ok (.iaload, 1) := by decide +kernel
theorem dP_push_67 : decode cP_push 67 = .ok (.iload_n 1, 1) := by decide +kernel
theorem dP_push_68 : decode cP_push 68 = .ok (.invokevirtual 122, 3) := by decide +kernel
theorem dP_push_71 : decode cP_push 71 = .ok (.return_, 1) := by decide +kernel
theorem dP_pop_0 : decode cP_pop 0 = .ok (.aload_n 0, 1) := by decide +kernel
theorem dP_pop_1 : decode cP_pop 1 = .ok (.aload_n 0, 1) := by decide +kernel
theorem dP_pop_2 : decode cP_pop 2 = .ok (.getfield 20, 3) := by decide +kernel
theorem dP_pop_5 : decode cP_pop 5 = .ok (.bipush 20, 2) := by decide +kernel
theorem dP_pop_7 : decode cP_pop 7 = .ok (.iaload, 1) := by decide +kernel
theorem dP_pop_8 : decode cP_pop 8 = .ok (.invokevirtual 103, 3) := by decide +kernel
theorem dP_pop_11 : decode cP_pop 11 = .ok (.istore_n 1, 1) := by decide +kernel
theorem dP_pop_12 : decode cP_pop 12 = .ok (.aload_n 0, 1) := by decide +kernel
theorem dP_pop_13 : decode cP_pop 13 = .ok (.getfield 20, 3) := by decide +kernel
theorem dP_pop_16 : decode cP_pop 16 = .ok (.bipush 20, 2) := by decide +kernel
theorem dP_pop_18 : decode cP_pop 18 = .ok (.aload_n 0, 1) := by decide +kernel
theorem dP_pop_19 : decode cP_pop 19 = .ok (.getfield 20, 3) := by decide +kernel
theorem dP_pop_22 : decode cP_pop 22 = .ok (.bipush 20, 2) := by decide +kernel
theorem dP_pop_24 : decode cP_pop 24 = .ok (.iaload, 1) := by decide +kernel
theorem dP_pop_25 : decode cP_pop 25 = .ok (.iconst 2, 1) := by decide +kernel
theorem dP_pop_26 : decode cP_pop 26 = .ok (.iadd, 1) := by decide +kernel
theorem dP_pop_27 : decode cP_pop 27 = .ok (.ldc 118, 2) := by decide +kernel
theorem dP_pop_29 : decode cP_pop 29 = .ok (.iand, 1) := by decide +kernel
theorem dP_pop_30 : decode cP_pop 30 = .ok (.iastore, 1) := by decide +kernel
theorem dP_pop_31 : decode cP_pop 31 = .ok (.iload_n 1, 1) := by decide +kernel
theorem dP_pop_32 : decode cP_pop 32 = .ok (.ireturn, 1) := by decide +kernel
theorem dP_call_0 : decode cP_call 0 = .ok (.aload_n 0, 1) := by decide +kernel
theorem dP_call_1 : decode cP_call 1 = .ok (.aload_n 0, 1) := by decide +kernel
theorem dP_call_2 : decode cP_call 2 = .ok (.getfield 20, 3) := by decide +kernel
theorem dP_call_5 : decode cP_call 5 = .ok (.bipush 21, 2) := by decide +kernel
theorem dP_call_7 : decode cP_call 7 = .ok (.iaload, 1) := by decide +kernel
theorem dP_call_8 : decode cP_call 8 = .ok (.invokevirtual 100, 3) := by decide +kernel
theorem dP_call_11 : decode cP_call 11 = .ok (.aload_n 0, 1) := by decide +kernel
theorem dP_call_12 : decode cP_call 12 = .ok (.getfield 20, 3) := by decide +kernel
theorem dP_call_15 : decode cP_call 15 = .ok (.bipush 21, 2) := by decide +kernel
theorem dP_call_17 : decode cP_call 17 = .ok (.iload_n 1, 1) := by decide +kernel
theorem dP_call_18 : decode cP_call 18 = .ok (.iastore, 1) := by decide +kernel
theorem dP_call_19 : decode cP_call 19 = .ok (.return_, 1) := by decide +kernel
theorem dP_condition_0 : decode cP_condition 0 = .ok (.iload_n 1, 1) := by decide +kernel
theorem dP_condition_1 : decode cP_condition 1 = .ok (.iconst 1, 1) := by decide +kernel
theorem dP_condition_2 : decode cP_condition 2 = .ok (.ishr, 1) := by decide +kernel
theorem dP_condition_3 : decode cP_condition 3 = .ok (.tableswitch 41 0 2 #[25, 31, 36], 25) := by decide +kernel
theorem dP_condition_28 : decode cP_condition 28 = .ok (.bipush 64, 2) := by decide +kernel
theorem dP_condition_30 : decode cP_condition 30 = .ok (.istore_n 2, 1) := by decide +kernel
theorem dP_condition_31 : decode cP_condition 31 = .ok (.goto 17, 3) := by decide +kernel
theorem dP_condition_34 : decode cP_condition 34 = .ok (.iconst 1, 1) := by decide +kernel
theorem dP_condition_35 : decode cP_condition 35 = .ok (.istore_n 2, 1) := by decide +kernel
theorem dP_condition_36 : decode cP_condition 36 = .ok (.goto 12, 3) := by decide +kernel
theorem dP_condition_39 : decode cP_condition 39 = .ok (.iconst 4, 1) := by decide +kernel
theorem dP_condition_40 : decode cP_condition 40 = .ok (.istore_n 2, 1) := by decide +kernel
theorem dP_condition_41 : decode cP_condition 41 = .ok (.goto 7, 3) := by decide +kernel
theorem dP_condition_44 : decode cP_condition 44 = .ok (.sipush 128, 3) := by decide +kernel
theorem dP_condition_47 : decode cP_condition 47 = .ok (.istore_n 2, 1) := by decide +kernel
theorem dP_condition_48 : decode cP_condition 48 = .ok (.aload_n 0, 1) := by decide +kernel
theorem dP_condition_49 : decode cP_condition 49 = .ok (.getfield 20, 3) := by decide +kernel
theorem dP_condition_52 : decode cP_condition 52 = .ok (.iconst 1, 1) := by decide +kernel
theorem dP_condition_53 : decode cP_condition 53 = .ok (.iaload, 1) := by decide +kernel
theorem dP_condition_54 : decode cP_condition 54 = .ok (.iload_n 2, 1) := by decide +kernel
theorem dP_condition_55 : decode cP_condition 55 = .ok (.iand, 1) := by decide +kernel
theorem dP_condition_56 : decode cP_condition 56 = .ok (.ifCond .eq 7, 3) := by decide +kernel
theorem dP_condition_59 : decode cP_condition 59 = .ok (.iconst 1, 1) := by decide +kernel
theorem dP_condition_60 : decode cP_condition 60 = .ok (.goto 4, 3) := by decide +kernel
theorem dP_condition_63 : decode cP_condition 63 = .ok (.iconst 0, 1) := by decide +kernel
theorem dP_condition_64 : decode cP_condition 64 = .ok (.iload_n 1, 1) := by decide +kernel
theorem dP_condition_65 : decode cP_condition 65 = .ok (.iconst 1, 1) := by decide +kernel
theorem dP_condition_66 : decode cP_condition 66 = .ok (.iand, 1) := by decide +kernel
theorem dP_condition_67 : decode cP_condition 67 = .ok (.iconst 1, 1) := by decide +kernel
theorem dP_condition_68 : decode cP_condition 68 = .ok (.if_icmp .ne 7, 3) := by decide +kernel
theorem dP_condition_71 : decode cP_condition 71 = .ok (.iconst 1, 1) := by decide +kernel
theorem dP_condition_72 : decode cP_condition 72 = .ok (.goto 4, 3) := by decide +kernel
theorem dP_condition_75 : decode cP_condition 75 = .ok (.iconst 0, 1) := by decide +kernel
theorem dP_condition_76 : decode cP_condition 76 = .ok (.if_icmp .ne 7, 3) := by decide +kernel
theorem dP_condition_79 : decode cP_condition 79 = .ok (.iconst 1, 1) := by decide +kernel
theorem dP_condition_80 : decode cP_condition 80 = .ok (.goto 4, 3) := by decide +kernel
theorem dP_condition_83 : decode cP_condition 83 = .ok (.iconst 0, 1) := by decide +kernel
theorem dP_condition_84 : decode cP_condition 84 = .ok (.ireturn, 1) := by decide +kernel
theorem dP_carry_0 : decode cP_carry 0 = .ok (.aload_n 0, 1) := by decide +kernel
theorem dP_carry_1 : decode cP_carry 1 = .ok (.getfield 20, 3) := by decide +kernel
theorem dP_carry_4 : decode cP_carry 4 = .ok (.iconst 1, 1) := by decide +kernel
theorem dP_carry_5 : decode cP_carry 5 = .ok (.iaload, 1) := by decide +kernel
theorem dP_carry_6 : decode cP_carry 6 = .ok (.iconst 1, 1) := by decide +kernel
theorem dP_carry_7 : decode cP_carry 7 = .ok (.iand, 1) := by decide +kernel
theorem dP_carry_8 : decode cP_carry 8 = .ok (.ireturn, 1) := by decide +kernel
theorem dP_setFlags_0 : decode cP_setFlags 0 = .ok (.aload_n 0, 1) := by decide +kernel
theorem dP_setFlags_1 : decode cP_setFlags 1 = .ok (.getfield 20, 3) := by decide +kernel
theorem dP_setFlags_4 : decode cP_setFlags 4 = .ok (.iconst 1, 1) := by decide +kernel
theorem dP_setFlags_5 : decode cP_setFlags 5 = .ok (.aload_n 0, 1) := by decide +kernel
theorem dP_setFlags_6 : decode cP_setFlags 6 = .ok (.getfield 20, 3) := by decide +kernel
theorem dP_setFlags_9 : decode cP_setFlags 9 = .ok (.iconst 1, 1) := by decide +kernel
theorem dP_setFlags_10 : decode cP_setFlags 10 = .ok (.iaload, 1) := by decide +kernel
theorem dP_setFlags_11 : decode cP_setFlags 11 = .ok (.iload_n 1, 1) := by decide +kernel
theorem dP_setFlags_12 : decode cP_setFlags 12 = .ok (.iand, 1) := by decide +kernel
theorem dP_setFlags_13 : decode cP_setFlags 13 = .ok (.iload_n 2, 1) := by decide +kernel
theorem dP_setFlags_14 : decode cP_setFlags 14 = .ok (.ior, 1) := by decide +kernel
theorem dP_setFlags_15 : decode cP_setFlags 15 = .ok (.iastore, 1) := by decide +kernel
theorem dP_setFlags_16 : decode cP_setFlags 16 = .ok (.return_, 1) := by decide +kernel
theorem dP_doFirst_0 : decode cP_doFirst 0 = .ok (.iload_n 1, 1) := by decide +kernel
theorem dP_doFirst_1 : decode cP_doFirst 1 = .ok (.iconst 1, 1) := by decide +kernel
theorem dP_doFirst_2 : decode cP_doFirst 2 = .ok (.ishr, 1) := by decide +kernel
theorem dP_doFirst_3 : decode cP_doFirst 3 = .ok (.istore_n 3, 1) := by decide +kernel
theorem dP_doFirst_4 : decode cP_doFirst 4 = .ok (.iload_n 1, 1) := by decide +kernel
theorem dP_doFirst_5 : decode cP_doFirst 5 = .ok (.iconst 1, 1) := by decide +kernel
theorem dP_doFirst_6 : decode cP_doFirst 6 = .ok (.iand, 1) := by decide +kernel
theorem dP_doFirst_7 : decode cP_doFirst 7 = .ok (.iconst 1, 1) := by decide +kernel
theorem dP_doFirst_8 : decode cP_doFirst 8 = .ok (.if_icmp .ne 7, 3) := by decide +kernel
theorem dP_doFirst_11 : decode cP_doFirst 11 = .ok (.iconst 1, 1) := by decide +kernel
theorem dP_doFirst_12 : decode cP_doFirst 12 = .ok (.goto 4, 3) := by decide +kernel
theorem dP_doFirst_15 : decode cP_doFirst 15 = .ok (.iconst 0, 1) := by decide +kernel
theorem dP_doFirst_16 : decode cP_doFirst 16 = .ok (.istore 4, 2) := by decide +kernel
theorem dP_doFirst_18 : decode cP_doFirst 18 = .ok (.iload_n 2, 1) := by decide +kernel
theorem dP_doFirst_19 : decode cP_doFirst 19 = .ok (.tableswitch 158 0 6 #[41, 49, 77, 98, 128, 128, 146], 41) := by decide +kernel
theorem dP_doFirst_60 : decode cP_doFirst 60 = .ok (.aload_n 0, 1) := by decide +kernel
theorem dP_doFirst_61 : decode cP_doFirst 61 = .ok (.iload_n 1, 1) := by decide +kernel
theorem dP_doFirst_62 : decode cP_doFirst 62 = .ok (.invokevirtual 133, 3) := by decide +kernel
theorem dP_doFirst_65 : decode cP_doFirst 65 = .ok (.goto 117, 3) := by decide +kernel
theorem dP_doFirst_68 : decode cP_doFirst 68 = .ok (.iload 4, 2) := by decide +kernel
theorem dP_doFirst_70 : decode cP_doFirst 70 = .ok (.ifCond .eq 11, 3) := by decide +kernel
theorem dP_doFirst_73 : decode cP_doFirst 73 = .ok (.aload_n 0, 1) := by decide +kernel
theorem dP_doFirst_74 : decode cP_doFirst 74 = .ok (.iload_n 3, 1) := by decide +kernel
theorem dP_doFirst_75 : decode cP_doFirst 75 = .ok (.invokevirtual 136, 3) := by decide +kernel
theorem dP_doFirst_78 : decode cP_doFirst 78 = .ok (.goto 104, 3) := by decide +kernel
theorem dP_doFirst_81 : decode cP_doFirst 81 = .ok (.aload_n 0, 1) := by decide +kernel
theorem dP_doFirst_82 : decode cP_doFirst 82 = .ok (.getfield 10, 3) := by decide +kernel
theorem dP_doFirst_85 : decode cP_doFirst 85 = .ok (.iload_n 3, 1) := by decide +kernel
theorem dP_doFirst_86 : decode cP_doFirst 86 = .ok (.aload_n 0, 1) := by decide +kernel
theorem dP_doFirst_87 : decode cP_doFirst 87 = .ok (.invokevirtual 139, 3) := by decide +kernel
theorem dP_doFirst_90 : decode cP_doFirst 90 = .ok (.invokevirtual 142, 3) := by decide +kernel
theorem dP_doFirst_93 : decode cP_doFirst 93 = .ok (.goto 89, 3) := by decide +kernel
theorem dP_doFirst_96 : decode cP_doFirst 96 = .ok (.iload 4, 2) := by decide +kernel
theorem dP_doFirst_98 : decode cP_doFirst 98 = .ok (.ifCond .eq 11, 3) := by decide +kernel
theorem dP_doFirst_101 : decode cP_doFirst 101 = .ok (.aload_n 0, 1) := by decide +kernel
theorem dP_doFirst_102 : decode cP_doFirst 102 = .ok (.iload_n 3, 1) := by decide +kernel
theorem dP_doFirst_103 : decode cP_doFirst 103 = .ok (.invokevirtual 145, 3) := by decide +kernel
theorem dP_doFirst_106 : decode cP_doFirst 106 = .ok (.goto 76, 3) := by decide +kernel
theorem dP_doFirst_109 : decode cP_doFirst 109 = .ok (.aload_n 0, 1) := by decide +kernel
theorem dP_doFirst_110 : decode cP_doFirst 110 = .ok (.iload_n 3, 1) := by decide +kernel
theorem dP_doFirst_111 : decode cP_doFirst 111 = .ok (.invokevirtual 148, 3) := by decide +kernel
theorem dP_doFirst_114 : decode cP_doFirst 114 = .ok (.goto 68, 3) := by decide +kernel
theorem dP_doFirst_117 : decode cP_doFirst 117 = .ok (.aload_n 0, 1) := by decide +kernel
theorem dP_doFirst_118 : decode cP_doFirst 118 = .ok (.getfield 10, 3) := by decide +kernel
theorem dP_doFirst_121 : decode cP_doFirst 121 = .ok (.iload_n 3, 1) := by decide +kernel
theorem dP_doFirst_122 : decode cP_doFirst 122 = .ok (.aload_n 0, 1) := by decide +kernel
theorem dP_doFirst_123 : decode cP_doFirst 123 = .ok (.getfield 10, 3) := by decide +kernel
theorem dP_doFirst_126 : decode cP_doFirst 126 = .ok (.iload_n 3, 1) := by decide +kernel
theorem dP_doFirst_127 : decode cP_doFirst 127 = .ok (.invokevirtual 151, 3) := by decide +kernel
theorem dP_doFirst_130 : decode cP_doFirst 130 = .ok (.iload 4, 2) := by decide +kernel
theorem dP_doFirst_132 : decode cP_doFirst 132 = .ok (.ifCond .eq 7, 3) := by decide +kernel
theorem dP_doFirst_135 : decode cP_doFirst 135 = .ok (.iconst (-1), 1) := by decide +kernel
theorem dP_doFirst_136 : decode cP_doFirst 136 = .ok (.goto 4, 3) := by decide +kernel
theorem dP_doFirst_139 : decode cP_doFirst 139 = .ok (.iconst 1, 1) := by decide +kernel
theorem dP_doFirst_140 : decode cP_doFirst 140 = .ok (.iadd, 1) := by decide +kernel
theorem dP_doFirst_141 : decode cP_doFirst 141 = .ok (.invokevirtual 142, 3) := by decide +kernel
theorem dP_doFirst_144 : decode cP_doFirst 144 = .ok (.goto 38, 3) := by decide +kernel
theorem dP_doFirst_147 : decode cP_doFirst 147 = .ok (.aload_n 0, 1) := by decide +kernel
theorem dP_doFirst_148 : decode cP_doFirst 148 = .ok (.iload_n 1, 1) := by decide +kernel
theorem dP_doFirst_149 : decode cP_doFirst 149 = .ok (.iload_n 2, 1) := by decide +kernel
theorem dP_doFirst_150 : decode cP_doFirst 150 = .ok (.iconst 5, 1) := by decide +kernel
theorem dP_doFirst_151 : decode cP_doFirst 151 = .ok (.if_icmp .ne 7, 3) := by decide +kernel
theorem dP_doFirst_154 : decode cP_doFirst 154 = .ok (.iconst 1, 1) := by decide +kernel
theorem dP_doFirst_155 : decode cP_doFirst 155 = .ok (.goto 4, 3) := by decide +kernel
theorem dP_doFirst_158 : decode cP_doFirst 158 = .ok (.iconst 0, 1) := by decide +kernel
theorem dP_doFirst_159 : decode cP_doFirst 159 = .ok (.invokevirtual 154, 3) := by decide +kernel
theorem dP_doFirst_162 : decode cP_doFirst 162 = .ok (.goto 20, 3) := by decide +kernel
theorem dP_doFirst_165 : decode cP_doFirst 165 = .ok (.aload_n 0, 1) := by decide +kernel
theorem dP_doFirst_166 : decode cP_doFirst 166 = .ok (.iload_n 1, 1) := by decide +kernel
theorem dP_doFirst_167 : decode cP_doFirst 167 = .ok (.aload_n 0, 1) := by decide +kernel
theorem dP_doFirst_168 : decode cP_doFirst 168 = .ok (.invokevirtual 115, 3) := by decide +kernel
theorem dP_doFirst_171 : decode cP_doFirst 171 = .ok (.invokevirtual 79, 3) := by decide +kernel
theorem dP_doFirst_174 : decode cP_doFirst 174 = .ok (.goto 8, 3) := by decide +kernel
theorem dP_doFirst_177 : decode cP_doFirst 177 = .ok (.aload_n 0, 1) := by decide +kernel
theorem dP_doFirst_178 : decode cP_doFirst 178 = .ok (.iload_n 1, 1) := by decide +kernel
theorem dP_doFirst_179 : decode cP_doFirst 179 = .ok (.invokevirtual 158, 3) := by decide +kernel
theorem dP_doFirst_182 : decode cP_doFirst 182 = .ok (.return_, 1) := by decide +kernel
theorem dP_moveNear_0 : decode cP_moveNear 0 = .ok (.iload_n 1, 1) := by decide +kernel
theorem dP_moveNear_1 : decode cP_moveNear 1 = .ok (.ifCond .ne 4, 3) := by decide +kernel
theorem dP_moveNear_4 : decode cP_moveNear 4 = .ok (.return_, 1) := by decide +kernel
theorem dP_moveNear_5 : decode cP_moveNear 5 = .ok (.iload_n 1, 1) := by decide +kernel
theorem dP_moveNear_6 : decode cP_moveNear 6 = .ok (.iconst 1, 1) := by decide +kernel
theorem dP_moveNear_7 : decode cP_moveNear 7 = .ok (.if_icmp .ne 13, 3) := by decide +kernel
theorem dP_moveNear_10 : decode cP_moveNear 10 = .ok (.aload_n 0, 1) := by decide +kernel
theorem dP_moveNear_11 : decode cP_moveNear 11 = .ok (.getfield 10, 3) := by decide +kernel
theorem dP_moveNear_14 : decode cP_moveNear 14 = .ok (.iconst 0, 1) := by decide +kernel
theorem dP_moveNear_15 : decode cP_moveNear 15 = .ok (.iconst 1, 1) := by decide +kernel
theorem dP_moveNear_16 : decode cP_moveNear 16 = .ok (.invokevirtual 161, 3) := by decide +kernel
theorem dP_moveNear_19 : decode cP_moveNear 19 = .ok (.return_, 1) := by decide +kernel
theorem dP_moveNear_20 : decode cP_moveNear 20 = .ok (.aload_n 0, 1) := by decide +kernel
theorem dP_moveNear_21 : decode cP_moveNear 21 = .ok (.invokevirtual 115, 3) := by decide +kernel
theorem dP_moveNear_24 : decode cP_moveNear 24 = .ok (.i2b, 1) := by decide +kernel
theorem dP_moveNear_25 : decode cP_moveNear 25 = .ok (.istore_n 2, 1) := by decide +kernel
theorem dP_moveNear_26 : decode cP_moveNear 26 = .ok (.iload_n 1, 1) := by decide +kernel
theorem dP_moveNear_27 : decode cP_moveNear 27 = .ok (.iconst 3, 1) := by decide +kernel
theorem dP_moveNear_28 : decode cP_moveNear 28 = .ok (.if_icmp .eq 18, 3) := by decide +kernel
theorem dP_moveNear_31 : decode cP_moveNear 31 = .ok (.iload_n 1, 1) := by decide +kernel
theorem dP_moveNear_32 : decode cP_moveNear 32 = .ok (.iconst 3, 1) := by decide +kernel
theorem dP_moveNear_33 : decode cP_moveNear 33 = .ok (.if_icmp .le 17, 3) := by decide +kernel
theorem dP_moveNear_36 : decode cP_moveNear 36 = .ok (.aload_n 0, 1) := by decide +kernel
theorem dP_moveNear_37 : decode cP_moveNear 37 = .ok (.iload_n 1, 1) := by decide +kernel
theorem dP_moveNear_38 : decode cP_moveNear 38 = .ok (.iconst 4, 1) := by decide +kernel
theorem dP_moveNear_39 : decode cP_moveNear 39 = .ok (.isub, 1) := by decide +kernel
theorem dP_moveNear_40 : decode cP_moveNear 40 = .ok (.invokevirtual 164, 3) := by decide +kernel
theorem dP_moveNear_43 : decode cP_moveNear 43 = .ok (.ifCond .eq 7, 3) := by decide +kernel
theorem dP_moveNear_46 : decode cP_moveNear 46 = .ok (.iconst 1, 1) := by decide +kernel
theorem dP_moveNear_47 : decode cP_moveNear 47 = .ok (.goto 4, 3) := by decide +kernel
theorem dP_moveNear_50 : decode cP_moveNear 50 = .ok (.iconst 0, 1) := by decide +kernel
theorem dP_moveNear_51 : decode cP_moveNear 51 = .ok (.istore_n 3, 1) := by decide +kernel
theorem dP_moveNear_52 : decode cP_moveNear 52 = .ok (.iload_n 1, 1) := by decide +kernel
theorem dP_moveNear_53 : decode cP_moveNear 53 = .ok (.iconst 2, 1) := by decide +kernel
theorem dP_moveNear_54 : decode cP_moveNear 54 = .ok (.if_icmp .ne 36, 3) := by decide +kernel
theorem dP_moveNear_57 : decode cP_moveNear 57 = .ok (.aload_n 0, 1) := by decide +kernel
theorem dP_moveNear_58 : decode cP_moveNear 58 = .ok (.getfield 20, 3) := by decide +kernel
theorem dP_moveNear_61 : decode cP_moveNear 61 = .ok (.iconst 2, 1) := by decide +kernel
theorem dP_moveNear_62 : decode cP_moveNear 62 = .ok (.aload_n 0, 1) := by decide +kernel
theorem dP_moveNear_63 : decode cP_moveNear 63 = .ok (.getfield 20, 3) := by decide +kernel
theorem dP_moveNear_66 : decode cP_moveNear 66 = .ok (.iconst 2, 1) := by decide +kernel
theorem dP_moveNear_67 : decode cP_moveNear 67 = .ok (.iaload, 1) := by decide +kernel
theorem dP_moveNear_68 : decode cP_moveNear 68 = .ok (.iconst 1, 1) := by decide +kernel
theorem dP_moveNear_69 : decode cP_moveNear 69 = .ok (.isub, 1) := by decide +kernel
theorem dP_moveNear_70 : decode cP_moveNear 70 = .ok (.sipush 255, 3) := by decide +kernel
theorem dP_moveNear_73 : decode cP_moveNear 73 = .ok (.iand, 1) := by decide +kernel
theorem dP_moveNear_74 : decode cP_moveNear 74 = .ok (.iastore, 1) := by decide +kernel
theorem dP_moveNear_75 : decode cP_moveNear 75 = .ok (.aload_n 0, 1) := by decide +kernel
theorem dP_moveNear_76 : decode cP_moveNear 76 = .ok (.getfield 20, 3) := by decide +kernel
theorem dP_moveNear_79 : decode cP_moveNear 79 = .ok (.iconst 2, 1) := by decide +kernel
theorem dP_moveNear_80 : decode cP_moveNear 80 = .ok (.iaload, 1) := by decide +kernel
theorem dP_moveNear_81 : decode cP_moveNear 81 = .ok (.ifCond .eq 7, 3) := by decide +kernel
theorem dP_moveNear_84 : decode cP_moveNear 84 = .ok (.iconst 1, 1) := by decide +kernel
theorem dP_moveNear_85 : decode cP_moveNear 85 = .ok (.goto 4, 3) := by decide +kernel
theorem dP_moveNear_88 : decode cP_moveNear 88 = .ok (.iconst 0, 1) := by decide +kernel
theorem dP_moveNear_89 : decode cP_moveNear 89 = .ok (.istore_n 3, 1) := by decide +kernel
theorem dP_moveNear_90 : decode cP_moveNear 90 = .ok (.iload_n 3, 1) := by decide +kernel
theorem dP_moveNear_91 : decode cP_moveNear 91 = .ok (.ifCond .eq 8, 3) := by decide +kernel
theorem dP_moveNear_94 : decode cP_moveNear 94 = .ok (.aload_n 0, 1) := by decide +kernel
theorem dP_moveNear_95 : decode cP_moveNear 95 = .ok (.iload_n 2, 1) := by decide +kernel
theorem dP_moveNear_96 : decode cP_moveNear 96 = .ok (.invokevirtual 106, 3) := by decide +kernel
theorem dP_moveNear_99 : decode cP_moveNear 99 = .ok (.return_, 1) := by decide +kernel
theorem dP_addPair_0 : decode cP_addPair 0 = .ok (.aload_n 0, 1) := by decide +kernel
theorem dP_addPair_1 : decode cP_addPair 1 = .ok (.getfield 10, 3) := by decide +kernel
theorem dP_addPair_4 : decode cP_addPair 4 = .ok (.invokevirtual 109, 3) := by decide +kernel
theorem dP_addPair_7 : decode cP_addPair 7 = .ok (.aload_n 0, 1) := by decide +kernel
theorem dP_addPair_8 : decode cP_addPair 8 = .ok (.getfield 10, 3) := by decide +kernel
theorem dP_addPair_11 : decode cP_addPair 11 = .ok (.iload_n 1, 1) := by decide +kernel
theorem dP_addPair_12 : decode cP_addPair 12 = .ok (.invokevirtual 151, 3) := by decide +kernel
theorem dP_addPair_15 : decode cP_addPair 15 = .ok (.iconst 0, 1) := by decide +kernel
theorem dP_addPair_16 : decode cP_addPair 16 = .ok (.invokestatic 167, 3) := by decide +kernel
theorem dP_addPair_19 : decode cP_addPair 19 = .ok (.istore_n 2, 1) := by decide +kernel
theorem dP_addPair_20 : decode cP_addPair 20 = .ok (.aload_n 0, 1) := by decide +kernel
theorem dP_addPair_21 : decode cP_addPair 21 = .ok (.getfield 10, 3) := by decide +kernel
theorem dP_addPair_24 : decode cP_addPair 24 = .ok (.iload_n 2, 1) := by decide +kernel
theorem dP_addPair_25 : decode cP_addPair 25 = .ok (.bipush 8, 2) := by decide +kernel
theorem dP_addPair_27 : decode cP_addPair 27 = .ok (.ishr, 1) := by decide +kernel
theorem dP_addPair_28 : decode cP_addPair 28 = .ok (.invokevirtual 171, 3) := by decide +kernel
theorem dP_addPair_31 : decode cP_addPair 31 = .ok (.sipush 196, 3) := by decide +kernel
theorem dP_addPair_34 : decode cP_addPair 34 = .ok (.istore_n 3, 1) := by decide +kernel
theorem dP_addPair_35 : decode cP_addPair 35 = .ok (.aload_n 0, 1) := by decide +kernel
theorem dP_addPair_36 : decode cP_addPair 36 = .ok (.iload_n 3, 1) := by decide +kernel
theorem dP_addPair_37 : decode cP_addPair 37 = .ok (.iload_n 2, 1) := by decide +kernel
theorem dP_addPair_38 : decode cP_addPair 38 = .ok (.sipush 255, 3) := by decide +kernel
theorem dP_addPair_41 : decode cP_addPair 41 = .ok (.iand, 1) := by decide +kernel
theorem dP_addPair_42 : decode cP_addPair 42 = .ok (.iload_n 3, 1) := by decide +kernel
theorem dP_addPair_43 : decode cP_addPair 43 = .ok (.iconst (-1), 1) := by decide +kernel
theorem dP_addPair_44 : decode cP_addPair 44 = .ok (.ixor, 1) := by decide +kernel
theorem dP_addPair_45 : decode cP_addPair 45 = .ok (.iand, 1) := by decide +kernel
theorem dP_addPair_46 : decode cP_addPair 46 = .ok (.invokevirtual 174, 3) := by decide +kernel
theorem dP_addPair_49 : decode cP_addPair 49 = .ok (.return_, 1) := by decide +kernel
theorem dP_putAt_0 : decode cP_putAt 0 = .ok (.iload_n 1, 1) := by decide +kernel
theorem dP_putAt_1 : decode cP_putAt 1 = .ok (.iconst 2, 1) := by decide +kernel
theorem dP_putAt_2 : decode cP_putAt 2 = .ok (.if_icmp .ge 25, 3) := by decide +kernel
theorem dP_putAt_5 : decode cP_putAt 5 = .ok (.aload_n 0, 1) := by decide +kernel
theorem dP_putAt_6 : decode cP_putAt 6 = .ok (.getfield 21, 3) := by decide +kernel
theorem dP_putAt_9 : decode cP_putAt 9 = .ok (.aload_n 0, 1) := by decide +kernel
theorem dP_putAt_10 : decode cP_putAt 10 = .ok (.getfield 10, 3) := by decide +kernel
theorem dP_putAt_13 : decode cP_putAt 13 = .ok (.iload_n 1, 1) := by decide +kernel
theorem dP_putAt_14 : decode cP_putAt 14 = .ok (.invokevirtual 151, 3) := by decide +kernel
theorem dP_putAt_17 : decode cP_putAt 17 = .ok (.aload_n 0, 1) := by decide +kernel
theorem dP_putAt_18 : decode cP_putAt 18 = .ok (.getfield 20, 3) := by decide +kernel
theorem dP_putAt_21 : decode cP_putAt 21 = .ok (.iconst 0, 1) := by decide +kernel
theorem dP_putAt_22 : decode cP_putAt 22 = .ok (.iaload, 1) := by decide +kernel
theorem dP_putAt_23 : decode cP_putAt 23 = .ok (.invokevirtual 122, 3) := by decide +kernel
theorem dP_putAt_26 : decode cP_putAt 26 = .ok (.return_, 1) := by decide +kernel
theorem dP_putAt_27 : decode cP_putAt 27 = .ok (.aload_n 0, 1) := by decide +kernel
theorem dP_putAt_28 : decode cP_putAt 28 = .ok (.invokevirtual 139, 3) := by decide +kernel
theorem dP_putAt_31 : decode cP_putAt 31 = .ok (.istore_n 2, 1) := by decide +kernel
theorem dP_putAt_32 : decode cP_putAt 32 = .ok (.iload_n 1, 1) := by decide +kernel
theorem dP_putAt_33 : decode cP_putAt 33 = .ok (.iconst 2, 1) := by decide +kernel
theorem dP_putAt_34 : decode cP_putAt 34 = .ok (.if_icmp .ne 18, 3) := by decide +kernel
theorem dP_putAt_37 : decode cP_putAt 37 = .ok (.aload_n 0, 1) := by decide +kernel
theorem dP_putAt_38 : decode cP_putAt 38 = .ok (.iload_n 2, 1) := by decide +kernel
theorem dP_putAt_39 : decode cP_putAt 39 = .ok (.aload_n 0, 1) := by decide +kernel
theorem dP_putAt_40 : decode cP_putAt 40 = .ok (.getfield 10, 3) := by decide +kernel
theorem dP_putAt_43 : decode cP_putAt 43 = .ok (.invokevirtual 109, 3) := by decide +kernel
theorem dP_putAt_46 : decode cP_putAt 46 = .ok (.invokevirtual 177, 3) := by decide +kernel
theorem dP_putAt_49 : decode cP_putAt 49 = .ok (.goto 17, 3) := by decide +kernel
theorem dP_putAt_52 : decode cP_putAt 52 = .ok (.aload_n 0, 1) := by decide +kernel
theorem dP_putAt_53 : decode cP_putAt 53 = .ok (.getfield 21, 3) := by decide +kernel
theorem dP_putAt_56 : decode cP_putAt 56 = .ok (.iload_n 2, 1) := by decide +kernel
theorem dP_putAt_57 : decode cP_putAt 57 = .ok (.aload_n 0, 1) := by decide +kernel
theorem dP_putAt_58 : decode cP_putAt 58 = .ok (.getfield 20, 3) := by decide +kernel
theorem dP_putAt_61 : decode cP_putAt 61 = .ok (.iconst 0, 1) := by decide +kernel
theorem dP_putAt_62 : decode cP_putAt 62 = .ok (.iaload, 1) := by decide +kernel
theorem dP_putAt_63 : decode cP_putAt 63 = .ok (.invokevirtual 122, 3) := by decide +kernel
theorem dP_putAt_66 : decode cP_putAt 66 = .ok (.return_, 1) := by decide +kernel
theorem dP_takeFrom_0 : decode cP_takeFrom 0 = .ok (.iload_n 1, 1) := by decide +kernel
theorem dP_takeFrom_1 : decode cP_takeFrom 1 = .ok (.iconst 2, 1) := by decide +kernel
theorem dP_takeFrom_2 : decode cP_takeFrom 2 = .ok (.if_icmp .ne 19, 3) := by decide +kernel
theorem dP_takeFrom_5 : decode cP_takeFrom 5 = .ok (.aload_n 0, 1) := by decide +kernel
theorem dP_takeFrom_6 : decode cP_takeFrom 6 = .ok (.getfield 10, 3) := by decide +kernel
theorem dP_takeFrom_9 : decode cP_takeFrom 9 = .ok (.aload_n 0, 1) := by decide +kernel
theorem dP_takeFrom_10 : decode cP_takeFrom 10 = .ok (.aload_n 0, 1) := by decide +kernel
theorem dP_takeFrom_11 : decode cP_takeFrom 11 = .ok (.invokevirtual 139, 3) := by decide +kernel
theorem dP_takeFrom_14 : decode cP_takeFrom 14 = .ok (.invokevirtual 103, 3) := by decide +kernel
theorem dP_takeFrom_17 : decode cP_takeFrom 17 = .ok (.invokevirtual 171, 3) := by decide +kernel
theorem dP_takeFrom_20 : decode cP_takeFrom 20 = .ok (.return_, 1) := by decide +kernel
theorem dP_takeFrom_21 : decode cP_takeFrom 21 = .ok (.iload_n 1, 1) := by decide +kernel
theorem dP_takeFrom_22 : decode cP_takeFrom 22 = .ok (.iconst 2, 1) := by decide +kernel
theorem dP_takeFrom_23 : decode cP_takeFrom 23 = .ok (.if_icmp .ge 14, 3) := by decide +kernel
theorem dP_takeFrom_26 : decode cP_takeFrom 26 = .ok (.aload_n 0, 1) := by decide +kernel
theorem dP_takeFrom_27 : decode cP_takeFrom 27 = .ok (.getfield 10, 3) := by decide +kernel
theorem dP_takeFrom_30 : decode cP_takeFrom 30 = .ok (.iload_n 1, 1) := by decide +kernel
theorem dP_takeFrom_31 : decode cP_takeFrom 31 = .ok (.invokevirtual 151, 3) := by decide +kernel
theorem dP_takeFrom_34 : decode cP_takeFrom 34 = .ok (.goto 7, 3) := by decide +kernel
theorem dP_takeFrom_37 : decode cP_takeFrom 37 = .ok (.aload_n 0, 1) := by decide +kernel
theorem dP_takeFrom_38 : decode cP_takeFrom 38 = .ok (.invokevirtual 139, 3) := by decide +kernel
theorem dP_takeFrom_41 : decode cP_takeFrom 41 = .ok (.istore_n 2, 1) := by decide +kernel
theorem dP_takeFrom_42 : decode cP_takeFrom 42 = .ok (.aload_n 0, 1) := by decide +kernel
theorem dP_takeFrom_43 : decode cP_takeFrom 43 = .ok (.getfield 20, 3) := by decide +kernel
theorem dP_takeFrom_46 : decode cP_takeFrom 46 = .ok (.iconst 0, 1) := by decide +kernel
theorem dP_takeFrom_47 : decode cP_takeFrom 47 = .ok (.aload_n 0, 1) := by decide +kernel
theorem dP_takeFrom_48 : decode cP_takeFrom 48 = .ok (.getfield 21, 3) := by decide +kernel
theorem dP_takeFrom_51 : decode cP_takeFrom 51 = .ok (.iload_n 2, 1) := by decide +kernel
theorem dP_takeFrom_52 : decode cP_takeFrom 52 = .ok (.invokevirtual 119, 3) := by decide +kernel
theorem dP_takeFrom_55 : decode cP_takeFrom 55 = .ok (.iastore, 1) := by decide +kernel
theorem dP_takeFrom_56 : decode cP_takeFrom 56 = .ok (.return_, 1) := by decide +kernel
theorem dP_count_0 : decode cP_count 0 = .ok (.aload_n 0, 1) := by decide +kernel
theorem dP_count_1 : decode cP_count 1 = .ok (.iload_n 1, 1) := by decide +kernel
theorem dP_count_2 : decode cP_count 2 = .ok (.invokevirtual 76, 3) := by decide +kernel
theorem dP_count_5 : decode cP_count 5 = .ok (.istore_n 3, 1) := by decide +kernel
theorem dP_count_6 : decode cP_count 6 = .ok (.iload_n 2, 1) := by decide +kernel
theorem dP_count_7 : decode cP_count 7 = .ok (.ifCond .eq 12, 3) := by decide +kernel
theorem dP_count_10 : decode cP_count 10 = .ok (.iload_n 3, 1) := by decide +kernel
theorem dP_count_11 : decode cP_count 11 = .ok (.iconst 1, 1) := by decide +kernel
theorem dP_count_12 : decode cP_count 12 = .ok (.iconst 0, 1) := by decide +kernel
theorem dP_count_13 : decode cP_count 13 = .ok (.invokestatic 180, 3) := by decide +kernel
theorem dP_count_16 : decode cP_count 16 = .ok (.goto 9, 3) := by decide +kernel
theorem dP_count_19 : decode cP_count 19 = .ok (.iload_n 3, 1) := by decide +kernel
theorem dP_count_20 : decode cP_count 20 = .ok (.iconst 1, 1) := by decide +kernel
theorem dP_count_21 : decode cP_count 21 = .ok (.iconst 0, 1) := by decide +kernel
theorem dP_count_22 : decode cP_count 22 = .ok (.invokestatic 183, 3) := by decide +kernel
theorem dP_count_25 : decode cP_count 25 = .ok (.istore 4, 2) := by decide +kernel
theorem dP_count_27 : decode cP_count 27 = .ok (.aload_n 0, 1) := by decide +kernel
theorem dP_count_28 : decode cP_count 28 = .ok (.iconst 1, 1) := by decide +kernel
theorem dP_count_29 : decode cP_count 29 = .ok (.iload 4, 2) := by decide +kernel
theorem dP_count_31 : decode cP_count 31 = .ok (.sipush 255, 3) := by decide +kernel
theorem dP_count_34 : decode cP_count 34 = .ok (.iand, 1) := by decide +kernel
theorem dP_count_35 : decode cP_count 35 = .ok (.bipush (-2), 2) := by decide +kernel
theorem dP_count_37 : decode cP_count 37 = .ok (.iand, 1) := by decide +kernel
theorem dP_count_38 : decode cP_count 38 = .ok (.invokevirtual 174, 3) := by decide +kernel
theorem dP_count_41 : decode cP_count 41 = .ok (.aload_n 0, 1) := by decide +kernel
theorem dP_count_42 : decode cP_count 42 = .ok (.iload_n 1, 1) := by decide +kernel
theorem dP_count_43 : decode cP_count 43 = .ok (.iload 4, 2) := by decide +kernel
theorem dP_count_45 : decode cP_count 45 = .ok (.bipush 8, 2) := by decide +kernel
theorem dP_count_47 : decode cP_count 47 = .ok (.ishr, 1) := by decide +kernel
theorem dP_count_48 : decode cP_count 48 = .ok (.invokevirtual 79, 3) := by decide +kernel
theorem dP_count_51 : decode cP_count 51 = .ok (.return_, 1) := by decide +kernel
theorem dP_changeA_0 : decode cP_changeA 0 = .ok (.aload_n 0, 1) := by decide +kernel
theorem dP_changeA_1 : decode cP_changeA 1 = .ok (.getfield 20, 3) := by decide +kernel
theorem dP_changeA_4 : decode cP_changeA 4 = .ok (.iconst 0, 1) := by decide +kernel
theorem dP_changeA_5 : decode cP_changeA 5 = .ok (.iaload, 1) := by decide +kernel
theorem dP_changeA_6 : decode cP_changeA 6 = .ok (.istore_n 2, 1) := by decide +kernel
theorem dP_changeA_7 : decode cP_changeA 7 = .ok (.sipush 196, 3) := by decide +kernel
theorem dP_changeA_10 : decode cP_changeA 10 = .ok (.istore_n 3, 1) := by decide +kernel
theorem dP_changeA_11 : decode cP_changeA 11 = .ok (.iload_n 1, 1) := by decide +kernel
theorem dP_changeA_12 : decode cP_changeA 12 = .ok (.tableswitch 128 4 7 #[32, 53, 87, 101], 32) := by decide +kernel
theorem dP_changeA_44 : decode cP_changeA 44 = .ok (.aload_n 0, 1) := by decide +kernel
theorem dP_changeA_45 : decode cP_changeA 45 = .ok (.getfield 10, 3) := by decide +kernel
theorem dP_changeA_48 : decode cP_changeA 48 = .ok (.iconst 0, 1) := by decide +kernel
theorem dP_changeA_49 : decode cP_changeA 49 = .ok (.iload_n 2, 1) := by decide +kernel
theorem dP_changeA_50 : decode cP_changeA 50 = .ok (.aload_n 0, 1) := by decide +kernel
theorem dP_changeA_51 : decode cP_changeA 51 = .ok (.getfield 20, 3) := by decide +kernel
theorem dP_changeA_54 : decode cP_changeA 54 = .ok (.iconst 1, 1) := by decide +kernel
theorem dP_changeA_55 : decode cP_changeA 55 = .ok (.iaload, 1) := by decide +kernel
theorem dP_changeA_56 : decode cP_changeA 56 = .ok (.invokestatic 186, 3) := by decide +kernel
theorem dP_changeA_59 : decode cP_changeA 59 = .ok (.invokevirtual 190, 3) := by decide +kernel
theorem dP_changeA_62 : decode cP_changeA 62 = .ok (.goto 115, 3) := by decide +kernel
theorem dP_changeA_65 : decode cP_changeA 65 = .ok (.aload_n 0, 1) := by decide +kernel
theorem dP_changeA_66 : decode cP_changeA 66 = .ok (.getfield 20, 3) := by decide +kernel
theorem dP_changeA_69 : decode cP_changeA 69 = .ok (.iconst 0, 1) := by decide +kernel
theorem dP_changeA_70 : decode cP_changeA 70 = .ok (.iload_n 2, 1) := by decide +kernel
theorem dP_changeA_71 : decode cP_changeA 71 = .ok (.sipush 255, 3) := by decide +kernel
theorem dP_changeA_74 : decode cP_changeA 74 = .ok (.ixor, 1) := by decide +kernel
theorem dP_changeA_75 : decode cP_changeA 75 = .ok (.iastore, 1) := by decide +kernel
theorem dP_changeA_76 : decode cP_changeA 76 = .ok (.aload_n 0, 1) := by decide +kernel
theorem dP_changeA_77 : decode cP_changeA 77 = .ok (.iload_n 3, 1) := by decide +kernel
theorem dP_changeA_78 : decode cP_changeA 78 = .ok (.iconst 1, 1) := by decide +kernel
theorem dP_changeA_79 : decode cP_changeA 79 = .ok (.ior, 1) := by decide +kernel
theorem dP_changeA_80 : decode cP_changeA 80 = .ok (.iload_n 2, 1) := by decide +kernel
theorem dP_changeA_81 : decode cP_changeA 81 = .ok (.sipush 255, 3) := by decide +kernel
theorem dP_changeA_84 : decode cP_changeA 84 = .ok (.ixor, 1) := by decide +kernel
theorem dP_changeA_85 : decode cP_changeA 85 = .ok (.bipush 40, 2) := by decide +kernel
theorem dP_changeA_87 : decode cP_changeA 87 = .ok (.iand, 1) := by decide +kernel
theorem dP_changeA_88 : decode cP_changeA 88 = .ok (.bipush 16, 2) := by decide +kernel
theorem dP_changeA_90 : decode cP_changeA 90 = .ok (.ior, 1) := by decide +kernel
theorem dP_changeA_91 : decode cP_changeA 91 = .ok (.iconst 2, 1) := by decide +kernel
theorem dP_changeA_92 : decode cP_changeA 92 = .ok (.ior, 1) := by decide +kernel
theorem dP_changeA_93 : decode cP_changeA 93 = .ok (.invokevirtual 174, 3) := by decide +kernel
theorem dP_changeA_96 : decode cP_changeA 96 = .ok (.goto 81, 3) := by decide +kernel
theorem dP_changeA_99 : decode cP_changeA 99 = .ok (.aload_n 0, 1) := by decide +kernel
theorem dP_changeA_100 : decode cP_changeA 100 = .ok (.iload_n 3, 1) := by decide +kernel
theorem dP_changeA_101 : decode cP_changeA 101 = .ok (.iload_n 2, 1) := by decide +kernel
theorem dP_changeA_102 : decode cP_changeA 102 = .ok (.bipush 40, 2) := by decide +kernel
theorem dP_changeA_104 : decode cP_changeA 104 = .ok (.iand, 1) := by decide +kernel
theorem dP_changeA_105 : decode cP_changeA 105 = .ok (.iconst 1, 1) := by decide +kernel
theorem dP_changeA_106 : decode cP_changeA 106 = .ok (.ior, 1) := by decide +kernel
theorem dP_changeA_107 : decode cP_changeA 107 = .ok (.invokevirtual 174, 3) := by decide +kernel
theorem dP_changeA_110 : decode cP_changeA 110 = .ok (.goto 67, 3) := by decide +kernel
theorem dP_changeA_113 : decode cP_changeA 113 = .ok (.aload_n 0, 1) := by decide +kernel
theorem dP_changeA_114 : decode cP_changeA 114 = .ok (.iload_n 3, 1) := by decide +kernel
theorem dP_changeA_115 : decode cP_changeA 115 = .ok (.iload_n 2, 1) := by decide +kernel
theorem dP_changeA_116 : decode cP_changeA 116 = .ok (.bipush 40, 2) := by decide +kernel
theorem dP_changeA_118 : decode cP_changeA 118 = .ok (.iand, 1) := by decide +kernel
theorem dP_changeA_119 : decode cP_changeA 119 = .ok (.aload_n 0, 1) := by decide +kernel
theorem dP_changeA_120 : decode cP_changeA 120 = .ok (.invokevirtual 193, 3) := by decide +kernel
theorem dP_changeA_123 : decode cP_changeA 123 = .ok (.iconst 1, 1) := by decide +kernel
theorem dP_changeA_124 : decode cP_changeA 124 = .ok (.if_icmp .ne 8, 3) := by decide +kernel
theorem dP_changeA_127 : decode cP_changeA 127 = .ok (.bipush 16, 2) := by decide +kernel
theorem dP_changeA_129 : decode cP_changeA 129 = .ok (.goto 4, 3) := by decide +kernel
theorem dP_changeA_132 : decode cP_changeA 132 = .ok (.iconst 1, 1) := by decide +kernel
theorem dP_changeA_133 : decode cP_changeA 133 = .ok (.ior, 1) := by decide +kernel
theorem dP_changeA_134 : decode cP_changeA 134 = .ok (.invokevirtual 174, 3) := by decide +kernel
theorem dP_changeA_137 : decode cP_changeA 137 = .ok (.goto 40, 3) := by decide +kernel
theorem dP_changeA_140 : decode cP_changeA 140 = .ok (.iload_n 1, 1) := by decide +kernel
theorem dP_changeA_141 : decode cP_changeA 141 = .ok (.iload_n 2, 1) := by decide +kernel
theorem dP_changeA_142 : decode cP_changeA 142 = .ok (.aload_n 0, 1) := by decide +kernel
theorem dP_changeA_143 : decode cP_changeA 143 = .ok (.invokevirtual 193, 3) := by decide +kernel
theorem dP_changeA_146 : decode cP_changeA 146 = .ok (.invokestatic 196, 3) := by decide +kernel
theorem dP_changeA_149 : decode cP_changeA 149 = .ok (.istore 4, 2) := by decide +kernel
theorem dP_changeA_151 : decode cP_changeA 151 = .ok (.aload_n 0, 1) := by decide +kernel
theorem dP_changeA_152 : decode cP_changeA 152 = .ok (.getfield 20, 3) := by decide +kernel
theorem dP_changeA_155 : decode cP_changeA 155 = .ok (.iconst 0, 1) := by decide +kernel
theorem dP_changeA_156 : decode cP_changeA 156 = .ok (.iload 4, 2) := by decide +kernel
theorem dP_changeA_158 : decode cP_changeA 158 = .ok (.bipush 8, 2) := by decide +kernel
theorem dP_changeA_160 : decode cP_changeA 160 = .ok (.ishr, 1) := by decide +kernel
theorem dP_changeA_161 : decode cP_changeA 161 = .ok (.iastore, 1) := by decide +kernel
theorem dP_changeA_162 : decode cP_changeA 162 = .ok (.aload_n 0, 1) := by decide +kernel
theorem dP_changeA_163 : decode cP_changeA 163 = .ok (.iload_n 3, 1) := by decide +kernel
theorem dP_changeA_164 : decode cP_changeA 164 = .ok (.iload 4, 2) := by decide +kernel
theorem dP_changeA_166 : decode cP_changeA 166 = .ok (.sipush 255, 3) := by decide +kernel
theorem dP_changeA_169 : decode cP_changeA 169 = .ok (.iand, 1) := by decide +kernel
theorem dP_changeA_170 : decode cP_changeA 170 = .ok (.iload_n 3, 1) := by decide +kernel
theorem dP_changeA_171 : decode cP_changeA 171 = .ok (.iconst (-1), 1) := by decide +kernel
theorem dP_changeA_172 : decode cP_changeA 172 = .ok (.ixor, 1) := by decide +kernel
theorem dP_changeA_173 : decode cP_changeA 173 = .ok (.iand, 1) := by decide +kernel
theorem dP_changeA_174 : decode cP_changeA 174 = .ok (.invokevirtual 174, 3) := by decide +kernel
theorem dP_changeA_177 : decode cP_changeA 177 = .ok (.return_, 1) := by decide +kernel
theorem dP_operate_0 : decode cP_operate 0 = .ok (.aload_n 0, 1) := by decide +kernel
theorem dP_operate_1 : decode cP_operate 1 = .ok (.getfield 20, 3) := by decide +kernel
theorem dP_operate_4 : decode cP_operate 4 = .ok (.iconst 0, 1) := by decide +kernel
theorem dP_operate_5 : decode cP_operate 5 = .ok (.iaload, 1) := by decide +kernel
theorem dP_operate_6 : decode cP_operate 6 = .ok (.istore_n 3, 1) := by decide +kernel
theorem dP_operate_7 : decode cP_operate 7 = .ok (.iload_n 1, 1) := by decide +kernel
theorem dP_operate_8 : decode cP_operate 8 = .ok (.tableswitch 130 0 6 #[44, 55, 69, 80, 94, 108, 119], 44) := by decide +kernel
theorem dP_operate_52 : decode cP_operate 52 = .ok (.iload_n 3, 1) := by decide +kernel
theorem dP_operate_53 : decode cP_operate 53 = .ok (.iload_n 2, 1) := by decide +kernel
theorem dP_operate_54 : decode cP_operate 54 = .ok (.iconst 0, 1) := by decide +kernel
theorem dP_operate_55 : decode cP_operate 55 = .ok (.invokestatic 183, 3) := by decide +kernel
theorem dP_operate_58 : decode cP_operate 58 = .ok (.istore 4, 2) := by decide +kernel
theorem dP_operate_60 : decode cP_operate 60 = .ok (.goto 85, 3) := by decide +kernel
theorem dP_operate_63 : decode cP_operate 63 = .ok (.iload_n 3, 1) := by decide +kernel
theorem dP_operate_64 : decode cP_operate 64 = .ok (.iload_n 2, 1) := by decide +kernel
theorem dP_operate_65 : decode cP_operate 65 = .ok (.aload_n 0, 1) := by decide +kernel
theorem dP_operate_66 : decode cP_operate 66 = .ok (.invokevirtual 193, 3) := by decide +kernel
theorem dP_operate_69 : decode cP_operate 69 = .ok (.invokestatic 183, 3) := by decide +kernel
theorem dP_operate_72 : decode cP_operate 72 = .ok (.istore 4, 2) := by decide +kernel
theorem dP_operate_74 : decode cP_operate 74 = .ok (.goto 71, 3) := by decide +kernel
theorem dP_operate_77 : decode cP_operate 77 = .ok (.iload_n 3, 1) := by decide +kernel
theorem dP_operate_78 : decode cP_operate 78 = .ok (.iload_n 2, 1) := by decide +kernel
theorem dP_operate_79 : decode cP_operate 79 = .ok (.iconst 0, 1) := by decide +kernel
theorem dP_operate_80 : decode cP_operate 80 = .ok (.invokestatic 180, 3) := by decide +kernel
theorem dP_operate_83 : decode cP_operate 83 = .ok (.istore 4, 2) := by decide +kernel
theorem dP_operate_85 : decode cP_operate 85 = .ok (.goto 60, 3) := by decide +kernel
theorem dP_operate_88 : decode cP_operate 88 = .ok (.iload_n 3, 1) := by decide +kernel
theorem dP_operate_89 : decode cP_operate 89 = .ok (.iload_n 2, 1) := by decide +kernel
theorem dP_operate_90 : decode cP_operate 90 = .ok (.aload_n 0, 1) := by decide +kernel
theorem dP_operate_91 : decode cP_operate 91 = .ok (.invokevirtual 193, 3) := by decide +kernel
theorem dP_operate_94 : decode cP_operate 94 = .ok (.invokestatic 180, 3) := by decide +kernel
theorem dP_operate_97 : decode cP_operate 97 = .ok (.istore 4, 2) := by decide +kernel
theorem dP_operate_99 : decode cP_operate 99 = .ok (.goto 46, 3) := by decide +kernel
theorem dP_operate_102 : decode cP_operate 102 = .ok (.iload_n 3, 1) := by decide +kernel
theorem dP_operate_103 : decode cP_operate 103 = .ok (.iload_n 2, 1) := by decide +kernel
theorem dP_operate_104 : decode cP_operate 104 = .ok (.iand, 1) := by decide +kernel
theorem dP_operate_105 : decode cP_operate 105 = .ok (.invokestatic 199, 3) := by decide +kernel
theorem dP_operate_108 : decode cP_operate 108 = .ok (.bipush 16, 2) := by decide +kernel
theorem dP_operate_110 : decode cP_operate 110 = .ok (.ior, 1) := by decide +kernel
theorem dP_operate_111 : decode cP_operate 111 = .ok (.istore 4, 2) := by decide +kernel
theorem dP_operate_113 : decode cP_operate 113 = .ok (.goto 32, 3) := by decide +kernel
theorem dP_operate_116 : decode cP_operate 116 = .ok (.iload_n 3, 1) := by decide +kernel
theorem dP_operate_117 : decode cP_operate 117 = .ok (.iload_n 2, 1) := by decide +kernel
theorem dP_operate_118 : decode cP_operate 118 = .ok (.ixor, 1) := by decide +kernel
theorem dP_operate_119 : decode cP_operate 119 = .ok (.invokestatic 199, 3) := by decide +kernel
theorem dP_operate_122 : decode cP_operate 122 = .ok (.istore 4, 2) := by decide +kernel
theorem dP_operate_124 : decode cP_operate 124 = .ok (.goto 21, 3) := by decide +kernel
theorem dP_operate_127 : decode cP_operate 127 = .ok (.iload_n 3, 1) := by decide +kernel
theorem dP_operate_128 : decode cP_operate 128 = .ok (.iload_n 2, 1) := by decide +kernel
theorem dP_operate_129 : decode cP_operate 129 = .ok (.ior, 1) := by decide +kernel
theorem dP_operate_130 : decode cP_operate 130 = .ok (.invokestatic 199, 3) := by decide +kernel
theorem dP_operate_133 : decode cP_operate 133 = .ok (.istore 4, 2) := by decide +kernel
theorem dP_operate_135 : decode cP_operate 135 = .ok (.goto 10, 3) := by decide +kernel
theorem dP_operate_138 : decode cP_operate 138 = .ok (.iload_n 3, 1) := by decide +kernel
theorem dP_operate_139 : decode cP_operate 139 = .ok (.iload_n 2, 1) := by decide +kernel
theorem dP_operate_140 : decode cP_operate 140 = .ok (.invokestatic 202, 3) := by decide +kernel
theorem dP_operate_143 : decode cP_operate 143 = .ok (.istore 4, 2) := by decide +kernel
theorem dP_operate_145 : decode cP_operate 145 = .ok (.aload_n 0, 1) := by decide +kernel
theorem dP_operate_146 : decode cP_operate 146 = .ok (.getfield 10, 3) := by decide +kernel
theorem dP_operate_149 : decode cP_operate 149 = .ok (.iconst 0, 1) := by decide +kernel
theorem dP_operate_150 : decode cP_operate 150 = .ok (.iload 4, 2) := by decide +kernel
theorem dP_operate_152 : decode cP_operate 152 = .ok (.invokevirtual 190, 3) := by decide +kernel
theorem dP_operate_155 : decode cP_operate 155 = .ok (.return_, 1) := by decide +kernel
theorem dP_doLast_0 : decode cP_doLast 0 = .ok (.iload_n 2, 1) := by decide +kernel
theorem dP_doLast_1 : decode cP_doLast 1 = .ok (.iconst 2, 1) := by decide +kernel
theorem dP_doLast_2 : decode cP_doLast 2 = .ok (.if_icmp .eq 8, 3) := by decide +kernel
theorem dP_doLast_5 : decode cP_doLast 5 = .ok (.iload_n 2, 1) := by decide +kernel
theorem dP_doLast_6 : decode cP_doLast 6 = .ok (.iconst 4, 1) := by decide +kernel
theorem dP_doLast_7 : decode cP_doLast 7 = .ok (.if_icmp .ne 10, 3) := by decide +kernel
theorem dP_doLast_10 : decode cP_doLast 10 = .ok (.aload_n 0, 1) := by decide +kernel
theorem dP_doLast_11 : decode cP_doLast 11 = .ok (.invokevirtual 139, 3) := by decide +kernel
theorem dP_doLast_14 : decode cP_doLast 14 = .ok (.goto 4, 3) := by decide +kernel
theorem dP_doLast_17 : decode cP_doLast 17 = .ok (.iconst 0, 1) := by decide +kernel
theorem dP_doLast_18 : decode cP_doLast 18 = .ok (.istore_n 3, 1) := by decide +kernel
theorem dP_doLast_19 : decode cP_doLast 19 = .ok (.iload_n 2, 1) := by decide +kernel
theorem dP_doLast_20 : decode cP_doLast 20 = .ok (.tableswitch 113 0 6 #[44, 113, 66, 113, 85, 113, 101], 44) := by decide +kernel
theorem dP_doLast_64 : decode cP_doLast 64 = .ok (.aload_n 0, 1) := by decide +kernel
theorem dP_doLast_65 : decode cP_doLast 65 = .ok (.iload_n 1, 1) := by decide +kernel
theorem dP_doLast_66 : decode cP_doLast 66 = .ok (.invokevirtual 164, 3) := by decide +kernel
theorem dP_doLast_69 : decode cP_doLast 69 = .ok (.ifCond .eq 72, 3) := by decide +kernel
theorem dP_doLast_72 : decode cP_doLast 72 = .ok (.aload_n 0, 1) := by decide +kernel
theorem dP_doLast_73 : decode cP_doLast 73 = .ok (.getfield 20, 3) := by decide +kernel
theorem dP_doLast_76 : decode cP_doLast 76 = .ok (.bipush 21, 2) := by decide +kernel
theorem dP_doLast_78 : decode cP_doLast 78 = .ok (.aload_n 0, 1) := by decide +kernel
theorem dP_doLast_79 : decode cP_doLast 79 = .ok (.invokevirtual 205, 3) := by decide +kernel
theorem dP_doLast_82 : decode cP_doLast 82 = .ok (.iastore, 1) := by decide +kernel
theorem dP_doLast_83 : decode cP_doLast 83 = .ok (.goto 58, 3) := by decide +kernel
theorem dP_doLast_86 : decode cP_doLast 86 = .ok (.aload_n 0, 1) := by decide +kernel
theorem dP_doLast_87 : decode cP_doLast 87 = .ok (.iload_n 1, 1) := by decide +kernel
theorem dP_doLast_88 : decode cP_doLast 88 = .ok (.invokevirtual 164, 3) := by decide +kernel
theorem dP_doLast_91 : decode cP_doLast 91 = .ok (.ifCond .eq 50, 3) := by decide +kernel
theorem dP_doLast_94 : decode cP_doLast 94 = .ok (.aload_n 0, 1) := by decide +kernel
theorem dP_doLast_95 : decode cP_doLast 95 = .ok (.getfield 20, 3) := by decide +kernel
theorem dP_doLast_98 : decode cP_doLast 98 = .ok (.bipush 21, 2) := by decide +kernel
theorem dP_doLast_100 : decode cP_doLast 100 = .ok (.iload_n 3, 1) := by decide +kernel
theorem dP_doLast_101 : decode cP_doLast 101 = .ok (.iastore, 1) := by decide +kernel
theorem dP_doLast_102 : decode cP_doLast 102 = .ok (.goto 39, 3) := by decide +kernel
theorem dP_doLast_105 : decode cP_doLast 105 = .ok (.aload_n 0, 1) := by decide +kernel
theorem dP_doLast_106 : decode cP_doLast 106 = .ok (.iload_n 1, 1) := by decide +kernel
theorem dP_doLast_107 : decode cP_doLast 107 = .ok (.invokevirtual 164, 3) := by decide +kernel
theorem dP_doLast_110 : decode cP_doLast 110 = .ok (.ifCond .eq 31, 3) := by decide +kernel
theorem dP_doLast_113 : decode cP_doLast 113 = .ok (.aload_n 0, 1) := by decide +kernel
theorem dP_doLast_114 : decode cP_doLast 114 = .ok (.iload_n 3, 1) := by decide +kernel
theorem dP_doLast_115 : decode cP_doLast 115 = .ok (.invokevirtual 208, 3) := by decide +kernel
theorem dP_doLast_118 : decode cP_doLast 118 = .ok (.goto 23, 3) := by decide +kernel
theorem dP_doLast_121 : decode cP_doLast 121 = .ok (.aload_n 0, 1) := by decide +kernel
theorem dP_doLast_122 : decode cP_doLast 122 = .ok (.iload_n 1, 1) := by decide +kernel
theorem dP_doLast_123 : decode cP_doLast 123 = .ok (.aload_n 0, 1) := by decide +kernel
theorem dP_doLast_124 : decode cP_doLast 124 = .ok (.invokevirtual 115, 3) := by decide +kernel
theorem dP_doLast_127 : decode cP_doLast 127 = .ok (.invokevirtual 82, 3) := by decide +kernel
theorem dP_doLast_130 : decode cP_doLast 130 = .ok (.goto 11, 3) := by decide +kernel
theorem dP_doLast_133 : decode cP_doLast 133 = .ok (.aload_n 0, 1) := by decide +kernel
theorem dP_doLast_134 : decode cP_doLast 134 = .ok (.bipush 8, 2) := by decide +kernel
theorem dP_doLast_136 : decode cP_doLast 136 = .ok (.iload_n 1, 1) := by decide +kernel
theorem dP_doLast_137 : decode cP_doLast 137 = .ok (.imul, 1) := by decide +kernel
theorem dP_doLast_138 : decode cP_doLast 138 = .ok (.invokevirtual 208, 3) := by decide +kernel
theorem dP_doLast_141 : decode cP_doLast 141 = .ok (.return_, 1) := by decide +kernel
theorem dP_popOrGo_0 : decode cP_popOrGo 0 = .ok (.iload_n 1, 1) := by decide +kernel
theorem dP_popOrGo_1 : decode cP_popOrGo 1 = .ok (.tableswitch 119 1 7 #[43, 119, 57, 119, 70, 87, 102], 43) := by decide +kernel
theorem dP_popOrGo_44 : decode cP_popOrGo 44 = .ok (.aload_n 0, 1) := by decide +kernel
theorem dP_popOrGo_45 : decode cP_popOrGo 45 = .ok (.getfield 20, 3) := by decide +kernel
theorem dP_popOrGo_48 : decode cP_popOrGo 48 = .ok (.bipush 21, 2) := by decide +kernel
theorem dP_popOrGo_50 : decode cP_popOrGo 50 = .ok (.aload_n 0, 1) := by decide +kernel
theorem dP_popOrGo_51 : decode cP_popOrGo 51 = .ok (.invokevirtual 205, 3) := by decide +kernel
theorem dP_popOrGo_54 : decode cP_popOrGo 54 = .ok (.iastore, 1) := by decide +kernel
theorem dP_popOrGo_55 : decode cP_popOrGo 55 = .ok (.goto 79, 3) := by decide +kernel
theorem dP_popOrGo_58 : decode cP_popOrGo 58 = .ok (.aload_n 0, 1) := by decide +kernel
theorem dP_popOrGo_59 : decode cP_popOrGo 59 = .ok (.getfield 10, 3) := by decide +kernel
theorem dP_popOrGo_62 : decode cP_popOrGo 62 = .ok (.iconst 2, 1) := by decide +kernel
theorem dP_popOrGo_63 : decode cP_popOrGo 63 = .ok (.bipush 7, 2) := by decide +kernel
theorem dP_popOrGo_65 : decode cP_popOrGo 65 = .ok (.invokevirtual 161, 3) := by decide +kernel
theorem dP_popOrGo_68 : decode cP_popOrGo 68 = .ok (.goto 66, 3) := by decide +kernel
theorem dP_popOrGo_71 : decode cP_popOrGo 71 = .ok (.aload_n 0, 1) := by decide +kernel
theorem dP_popOrGo_72 : decode cP_popOrGo 72 = .ok (.getfield 20, 3) := by decide +kernel
theorem dP_popOrGo_75 : decode cP_popOrGo 75 = .ok (.bipush 21, 2) := by decide +kernel
theorem dP_popOrGo_77 : decode cP_popOrGo 77 = .ok (.aload_n 0, 1) := by decide +kernel
theorem dP_popOrGo_78 : decode cP_popOrGo 78 = .ok (.getfield 10, 3) := by decide +kernel
theorem dP_popOrGo_81 : decode cP_popOrGo 81 = .ok (.invokevirtual 109, 3) := by decide +kernel
theorem dP_popOrGo_84 : decode cP_popOrGo 84 = .ok (.iastore, 1) := by decide +kernel
theorem dP_popOrGo_85 : decode cP_popOrGo 85 = .ok (.goto 49, 3) := by decide +kernel
theorem dP_popOrGo_88 : decode cP_popOrGo 88 = .ok (.aload_n 0, 1) := by decide +kernel
theorem dP_popOrGo_89 : decode cP_popOrGo 89 = .ok (.getfield 10, 3) := by decide +kernel
theorem dP_popOrGo_92 : decode cP_popOrGo 92 = .ok (.iconst 0, 1) := by decide +kernel
theorem dP_popOrGo_93 : decode cP_popOrGo 93 = .ok (.aload_n 0, 1) := by decide +kernel
theorem dP_popOrGo_94 : decode cP_popOrGo 94 = .ok (.invokevirtual 205, 3) := by decide +kernel
theorem dP_popOrGo_97 : decode cP_popOrGo 97 = .ok (.invokevirtual 190, 3) := by decide +kernel
theorem dP_popOrGo_100 : decode cP_popOrGo 100 = .ok (.goto 34, 3) := by decide +kernel
theorem dP_popOrGo_103 : decode cP_popOrGo 103 = .ok (.aload_n 0, 1) := by decide +kernel
theorem dP_popOrGo_104 : decode cP_popOrGo 104 = .ok (.getfield 20, 3) := by decide +kernel
theorem dP_popOrGo_107 : decode cP_popOrGo 107 = .ok (.bipush 20, 2) := by decide +kernel
theorem dP_popOrGo_109 : decode cP_popOrGo 109 = .ok (.aload_n 0, 1) := by decide +kernel
theorem dP_popOrGo_110 : decode cP_popOrGo 110 = .ok (.getfield 10, 3) := by decide +kernel
theorem dP_popOrGo_113 : decode cP_popOrGo 113 = .ok (.invokevirtual 109, 3) := by decide +kernel
theorem dP_popOrGo_116 : decode cP_popOrGo 116 = .ok (.iastore, 1) := by decide +kernel
theorem dP_popOrGo_117 : decode cP_popOrGo 117 = .ok (.goto 17, 3) := by decide +kernel
theorem dP_popOrGo_120 : decode cP_popOrGo 120 = .ok (.aload_n 0, 1) := by decide +kernel
theorem dP_popOrGo_121 : decode cP_popOrGo 121 = .ok (.getfield 10, 3) := by decide +kernel
theorem dP_popOrGo_124 : decode cP_popOrGo 124 = .ok (.iload_n 1, 1) := by decide +kernel
theorem dP_popOrGo_125 : decode cP_popOrGo 125 = .ok (.iconst 1, 1) := by decide +kernel
theorem dP_popOrGo_126 : decode cP_popOrGo 126 = .ok (.ishr, 1) := by decide +kernel
theorem dP_popOrGo_127 : decode cP_popOrGo 127 = .ok (.aload_n 0, 1) := by decide +kernel
theorem dP_popOrGo_128 : decode cP_popOrGo 128 = .ok (.invokevirtual 205, 3) := by decide +kernel
theorem dP_popOrGo_131 : decode cP_popOrGo 131 = .ok (.invokevirtual 142, 3) := by decide +kernel
theorem dP_popOrGo_134 : decode cP_popOrGo 134 = .ok (.return_, 1) := by decide +kernel
theorem dP_pushOrCall_0 : decode cP_pushOrCall 0 = .ok (.iload_n 1, 1) := by decide +kernel
theorem dP_pushOrCall_1 : decode cP_pushOrCall 1 = .ok (.iconst 1, 1) := by decide +kernel
theorem dP_pushOrCall_2 : decode cP_pushOrCall 2 = .ok (.iand, 1) := by decide +kernel
theorem dP_pushOrCall_3 : decode cP_pushOrCall 3 = .ok (.iconst 1, 1) := by decide +kernel
theorem dP_pushOrCall_4 : decode cP_pushOrCall 4 = .ok (.if_icmp .ne 14, 3) := by decide +kernel
theorem dP_pushOrCall_7 : decode cP_pushOrCall 7 = .ok (.aload_n 0, 1) := by decide +kernel
theorem dP_pushOrCall_8 : decode cP_pushOrCall 8 = .ok (.aload_n 0, 1) := by decide +kernel
theorem dP_pushOrCall_9 : decode cP_pushOrCall 9 = .ok (.invokevirtual 139, 3) := by decide +kernel
theorem dP_pushOrCall_12 : decode cP_pushOrCall 12 = .ok (.invokevirtual 208, 3) := by decide +kernel
theorem dP_pushOrCall_15 : decode cP_pushOrCall 15 = .ok (.goto 34, 3) := by decide +kernel
theorem dP_pushOrCall_18 : decode cP_pushOrCall 18 = .ok (.aload_n 0, 1) := by decide +kernel
theorem dP_pushOrCall_19 : decode cP_pushOrCall 19 = .ok (.iload_n 1, 1) := by decide +kernel
theorem dP_pushOrCall_20 : decode cP_pushOrCall 20 = .ok (.bipush 6, 2) := by decide +kernel
theorem dP_pushOrCall_22 : decode cP_pushOrCall 22 = .ok (.if_icmp .ne 14, 3) := by decide +kernel
theorem dP_pushOrCall_25 : decode cP_pushOrCall 25 = .ok (.aload_n 0, 1) := by decide +kernel
theorem dP_pushOrCall_26 : decode cP_pushOrCall 26 = .ok (.getfield 10, 3) := by decide +kernel
theorem dP_pushOrCall_29 : decode cP_pushOrCall 29 = .ok (.iconst 0, 1) := by decide +kernel
theorem dP_pushOrCall_30 : decode cP_pushOrCall 30 = .ok (.invokevirtual 211, 3) := by decide +kernel
theorem dP_pushOrCall_33 : decode cP_pushOrCall 33 = .ok (.goto 13, 3) := by decide +kernel
theorem dP_pushOrCall_36 : decode cP_pushOrCall 36 = .ok (.aload_n 0, 1) := by decide +kernel
theorem dP_pushOrCall_37 : decode cP_pushOrCall 37 = .ok (.getfield 10, 3) := by decide +kernel
theorem dP_pushOrCall_40 : decode cP_pushOrCall 40 = .ok (.iload_n 1, 1) := by decide +kernel
theorem dP_pushOrCall_41 : decode cP_pushOrCall 41 = .ok (.iconst 1, 1) := by decide +kernel
theorem dP_pushOrCall_42 : decode cP_pushOrCall 42 = .ok (.ishr, 1) := by decide +kernel
theorem dP_pushOrCall_43 : decode cP_pushOrCall 43 = .ok (.invokevirtual 151, 3) := by decide +kernel
theorem dP_pushOrCall_46 : decode cP_pushOrCall 46 = .ok (.invokevirtual 100, 3) := by decide +kernel
theorem dP_pushOrCall_49 : decode cP_pushOrCall 49 = .ok (.return_, 1) := by decide +kernel
theorem dP_doMixed_0 : decode cP_doMixed 0 = .ok (.aload_n 0, 1) := by decide +kernel
theorem dP_doMixed_1 : decode cP_doMixed 1 = .ok (.getfield 20, 3) := by decide +kernel
theorem dP_doMixed_4 : decode cP_doMixed 4 = .ok (.iconst 0, 1) := by decide +kernel
theorem dP_doMixed_5 : decode cP_doMixed 5 = .ok (.iaload, 1) := by decide +kernel
theorem dP_doMixed_6 : decode cP_doMixed 6 = .ok (.istore_n 2, 1) := by decide +kernel
theorem dP_doMixed_7 : decode cP_doMixed 7 = .ok (.iload_n 1, 1) := by decide +kernel
theorem dP_doMixed_8 : decode cP_doMixed 8 = .ok (.tableswitch 211 0 7 #[48, 211, 62, 82, 107, 148, 171, 171], 48) := by decide +kernel
theorem dP_doMixed_56 : decode cP_doMixed 56 = .ok (.aload_n 0, 1) := by decide +kernel
theorem dP_doMixed_57 : decode cP_doMixed 57 = .ok (.getfield 20, 3) := by decide +kernel
theorem dP_doMixed_60 : decode cP_doMixed 60 = .ok (.bipush 21, 2) := by decide +kernel
theorem dP_doMixed_62 : decode cP_doMixed 62 = .ok (.aload_n 0, 1) := by decide +kernel
theorem dP_doMixed_63 : decode cP_doMixed 63 = .ok (.invokevirtual 139, 3) := by decide +kernel
theorem dP_doMixed_66 : decode cP_doMixed 66 = .ok (.iastore, 1) := by decide +kernel
theorem dP_doMixed_67 : decode cP_doMixed 67 = .ok (.goto 152, 3) := by decide +kernel
theorem dP_doMixed_70 : decode cP_doMixed 70 = .ok (.aload_n 0, 1) := by decide +kernel
theorem dP_doMixed_71 : decode cP_doMixed 71 = .ok (.getfield 21, 3) := by decide +kernel
theorem dP_doMixed_74 : decode cP_doMixed 74 = .ok (.iload_n 2, 1) := by decide +kernel
theorem dP_doMixed_75 : decode cP_doMixed 75 = .ok (.bipush 8, 2) := by decide +kernel
theorem dP_doMixed_77 : decode cP_doMixed 77 = .ok (.ishl, 1) := by decide +kernel
theorem dP_doMixed_78 : decode cP_doMixed 78 = .ok (.aload_n 0, 1) := by decide +kernel
theorem dP_doMixed_79 : decode cP_doMixed 79 = .ok (.invokevirtual 115, 3) := by decide +kernel
theorem dP_doMixed_82 : decode cP_doMixed 82 = .ok (.ior, 1) := by decide +kernel
theorem dP_doMixed_83 : decode cP_doMixed 83 = .ok (.iload_n 2, 1) := by decide +kernel
theorem dP_doMixed_84 : decode cP_doMixed 84 = .ok (.invokevirtual 214, 3) := by decide +kernel
theorem dP_doMixed_87 : decode cP_doMixed 87 = .ok (.goto 132, 3) := by decide +kernel
theorem dP_doMixed_90 : decode cP_doMixed 90 = .ok (.aload_n 0, 1) := by decide +kernel
theorem dP_doMixed_91 : decode cP_doMixed 91 = .ok (.getfield 20, 3) := by decide +kernel
theorem dP_doMixed_94 : decode cP_doMixed 94 = .ok (.iconst 0, 1) := by decide +kernel
theorem dP_doMixed_95 : decode cP_doMixed 95 = .ok (.aload_n 0, 1) := by decide +kernel
theorem dP_doMixed_96 : decode cP_doMixed 96 = .ok (.getfield 21, 3) := by decide +kernel
theorem dP_doMixed_99 : decode cP_doMixed 99 = .ok (.iload_n 2, 1) := by decide +kernel
theorem dP_doMixed_100 : decode cP_doMixed 100 = .ok (.bipush 8, 2) := by decide +kernel
theorem dP_doMixed_102 : decode cP_doMixed 102 = .ok (.ishl, 1) := by decide +kernel
theorem dP_doMixed_103 : decode cP_doMixed 103 = .ok (.aload_n 0, 1) := by decide +kernel
theorem dP_doMixed_104 : decode cP_doMixed 104 = .ok (.invokevirtual 115, 3) := by decide +kernel
theorem dP_doMixed_107 : decode cP_doMixed 107 = .ok (.ior, 1) := by decide +kernel
theorem dP_doMixed_108 : decode cP_doMixed 108 = .ok (.invokevirtual 217, 3) := by decide +kernel
theorem dP_doMixed_111 : decode cP_doMixed 111 = .ok (.iastore, 1) := by decide +kernel
theorem dP_doMixed_112 : decode cP_doMixed 112 = .ok (.goto 107, 3) := by decide +kernel
theorem dP_doMixed_115 : decode cP_doMixed 115 = .ok (.aload_n 0, 1) := by decide +kernel
theorem dP_doMixed_116 : decode cP_doMixed 116 = .ok (.aload_n 0, 1) := by decide +kernel
theorem dP_doMixed_117 : decode cP_doMixed 117 = .ok (.getfield 20, 3) := by decide +kernel
theorem dP_doMixed_120 : decode cP_doMixed 120 = .ok (.bipush 20, 2) := by decide +kernel
theorem dP_doMixed_122 : decode cP_doMixed 122 = .ok (.iaload, 1) := by decide +kernel
theorem dP_doMixed_123 : decode cP_doMixed 123 = .ok (.invokevirtual 103, 3) := by decide +kernel
theorem dP_doMixed_126 : decode cP_doMixed 126 = .ok (.istore_n 3, 1) := by decide +kernel
theorem dP_doMixed_127 : decode cP_doMixed 127 = .ok (.aload_n 0, 1) := by decide +kernel
theorem dP_doMixed_128 : decode cP_doMixed 128 = .ok (.aload_n 0, 1) := by decide +kernel
theorem dP_doMixed_129 : decode cP_doMixed 129 = .ok (.getfield 20, 3) := by decide +kernel
theorem dP_doMixed_132 : decode cP_doMixed 132 = .ok (.bipush 20, 2) := by decide +kernel
theorem dP_doMixed_134 : decode cP_doMixed 134 = .ok (.iaload, 1) := by decide +kernel
theorem dP_doMixed_135 : decode cP_doMixed 135 = .ok (.aload_n 0, 1) := by decide +kernel
theorem dP_doMixed_136 : decode cP_doMixed 136 = .ok (.getfield 10, 3) := by decide +kernel
theorem dP_doMixed_139 : decode cP_doMixed 139 = .ok (.invokevirtual 109, 3) := by decide +kernel
theorem dP_doMixed_142 : decode cP_doMixed 142 = .ok (.invokevirtual 177, 3) := by decide +kernel
theorem dP_doMixed_145 : decode cP_doMixed 145 = .ok (.aload_n 0, 1) := by decide +kernel
theorem dP_doMixed_146 : decode cP_doMixed 146 = .ok (.getfield 10, 3) := by decide +kernel
theorem dP_doMixed_149 : decode cP_doMixed 149 = .ok (.iload_n 3, 1) := by decide +kernel
theorem dP_doMixed_150 : decode cP_doMixed 150 = .ok (.invokevirtual 171, 3) := by decide +kernel
theorem dP_doMixed_153 : decode cP_doMixed 153 = .ok (.goto 66, 3) := by decide +kernel
theorem dP_doMixed_156 : decode cP_doMixed 156 = .ok (.aload_n 0, 1) := by decide +kernel
theorem dP_doMixed_157 : decode cP_doMixed 157 = .ok (.getfield 10, 3) := by decide +kernel
theorem dP_doMixed_160 : decode cP_doMixed 160 = .ok (.iconst 4, 1) := by decide +kernel
theorem dP_doMixed_161 : decode cP_doMixed 161 = .ok (.bipush 6, 2) := by decide +kernel
theorem dP_doMixed_163 : decode cP_doMixed 163 = .ok (.invokevirtual 220, 3) := by decide +kernel
theorem dP_doMixed_166 : decode cP_doMixed 166 = .ok (.aload_n 0, 1) := by decide +kernel
theorem dP_doMixed_167 : decode cP_doMixed 167 = .ok (.getfield 10, 3) := by decide +kernel
theorem dP_doMixed_170 : decode cP_doMixed 170 = .ok (.iconst 5, 1) := by decide +kernel
theorem dP_doMixed_171 : decode cP_doMixed 171 = .ok (.bipush 7, 2) := by decide +kernel
theorem dP_doMixed_173 : decode cP_doMixed 173 = .ok (.invokevirtual 220, 3) := by decide +kernel
theorem dP_doMixed_176 : decode cP_doMixed 176 = .ok (.goto 43, 3) := by decide +kernel
theorem dP_doMixed_179 : decode cP_doMixed 179 = .ok (.aload_n 0, 1) := by decide +kernel
theorem dP_doMixed_180 : decode cP_doMixed 180 = .ok (.getfield 20, 3) := by decide +kernel
theorem dP_doMixed_183 : decode cP_doMixed 183 = .ok (.bipush 22, 2) := by decide +kernel
theorem dP_doMixed_185 : decode cP_doMixed 185 = .ok (.iload_n 1, 1) := by decide +kernel
theorem dP_doMixed_186 : decode cP_doMixed 186 = .ok (.bipush 6, 2) := by decide +kernel
theorem dP_doMixed_188 : decode cP_doMixed 188 = .ok (.isub, 1) := by decide +kernel
theorem dP_doMixed_189 : decode cP_doMixed 189 = .ok (.iastore, 1) := by decide +kernel
theorem dP_doMixed_190 : decode cP_doMixed 190 = .ok (.aload_n 0, 1) := by decide +kernel
theorem dP_doMixed_191 : decode cP_doMixed 191 = .ok (.getfield 20, 3) := by decide +kernel
theorem dP_doMixed_194 : decode cP_doMixed 194 = .ok (.bipush 23, 2) := by decide +kernel
theorem dP_doMixed_196 : decode cP_doMixed 196 = .ok (.iload_n 1, 1) := by decide +kernel
theorem dP_doMixed_197 : decode cP_doMixed 197 = .ok (.bipush 6, 2) := by decide +kernel
theorem dP_doMixed_199 : decode cP_doMixed 199 = .ok (.isub, 1) := by decide +kernel
theorem dP_doMixed_200 : decode cP_doMixed 200 = .ok (.iastore, 1) := by decide +kernel
theorem dP_doMixed_201 : decode cP_doMixed 201 = .ok (.aload_n 0, 1) := by decide +kernel
theorem dP_doMixed_202 : decode cP_doMixed 202 = .ok (.iload_n 1, 1) := by decide +kernel
theorem dP_doMixed_203 : decode cP_doMixed 203 = .ok (.bipush 7, 2) := by decide +kernel
theorem dP_doMixed_205 : decode cP_doMixed 205 = .ok (.if_icmp .ne 7, 3) := by decide +kernel
theorem dP_doMixed_208 : decode cP_doMixed 208 = .ok (.iconst 1, 1) := by decide +kernel
theorem dP_doMixed_209 : decode cP_doMixed 209 = .ok (.goto 4, 3) := by decide +kernel
theorem dP_doMixed_212 : decode cP_doMixed 212 = .ok (.iconst 0, 1) := by decide +kernel
theorem dP_doMixed_213 : decode cP_doMixed 213 = .ok (.putfield 25, 3) := by decide +kernel
theorem dP_doMixed_216 : decode cP_doMixed 216 = .ok (.goto 3, 3) := by decide +kernel
theorem dP_doMixed_219 : decode cP_doMixed 219 = .ok (.return_, 1) := by decide +kernel
theorem dP_rotate_0 : decode cP_rotate 0 = .ok (.aload_n 0, 1) := by decide +kernel
theorem dP_rotate_1 : decode cP_rotate 1 = .ok (.getfield 10, 3) := by decide +kernel
theorem dP_rotate_4 : decode cP_rotate 4 = .ok (.getfield 29, 3) := by decide +kernel
theorem dP_rotate_7 : decode cP_rotate 7 = .ok (.bipush 6, 2) := by decide +kernel
theorem dP_rotate_9 : decode cP_rotate 9 = .ok (.if_icmp .eq 7, 3) := by decide +kernel
theorem dP_rotate_12 : decode cP_rotate 12 = .ok (.iconst 1, 1) := by decide +kernel
theorem dP_rotate_13 : decode cP_rotate 13 = .ok (.goto 4, 3) := by decide +kernel
theorem dP_rotate_16 : decode cP_rotate 16 = .ok (.iconst 0, 1) := by decide +kernel
theorem dP_rotate_17 : decode cP_rotate 17 = .ok (.istore_n 1, 1) := by decide +kernel
theorem dP_rotate_18 : decode cP_rotate 18 = .ok (.aload_n 0, 1) := by decide +kernel
theorem dP_rotate_19 : decode cP_rotate 19 = .ok (.invokevirtual 59, 3) := by decide +kernel
theorem dP_rotate_22 : decode cP_rotate 22 = .ok (.iload_n 1, 1) := by decide +kernel
theorem dP_rotate_23 : decode cP_rotate 23 = .ok (.ifCond .eq 10, 3) := by decide +kernel
theorem dP_rotate_26 : decode cP_rotate 26 = .ok (.aload_n 0, 1) := by decide +kernel
theorem dP_rotate_27 : decode cP_rotate 27 = .ok (.invokevirtual 115, 3) := by decide +kernel
theorem dP_rotate_30 : decode cP_rotate 30 = .ok (.goto 7, 3) := by decide +kernel
theorem dP_rotate_33 : decode cP_rotate 33 = .ok (.aload_n 0, 1) := by decide +kernel
theorem dP_rotate_34 : decode cP_rotate 34 = .ok (.invokevirtual 65, 3) := by decide +kernel
theorem dP_rotate_37 : decode cP_rotate 37 = .ok (.istore_n 2, 1) := by decide +kernel
theorem dP_rotate_38 : decode cP_rotate 38 = .ok (.iload_n 2, 1) := by decide +kernel
theorem dP_rotate_39 : decode cP_rotate 39 = .ok (.iconst 3, 1) := by decide +kernel
theorem dP_rotate_40 : decode cP_rotate 40 = .ok (.ishr, 1) := by decide +kernel
theorem dP_rotate_41 : decode cP_rotate 41 = .ok (.bipush 7, 2) := by decide +kernel
theorem dP_rotate_43 : decode cP_rotate 43 = .ok (.iand, 1) := by decide +kernel
theorem dP_rotate_44 : decode cP_rotate 44 = .ok (.istore_n 3, 1) := by decide +kernel
theorem dP_rotate_45 : decode cP_rotate 45 = .ok (.iload_n 2, 1) := by decide +kernel
theorem dP_rotate_46 : decode cP_rotate 46 = .ok (.bipush 7, 2) := by decide +kernel
theorem dP_rotate_48 : decode cP_rotate 48 = .ok (.iand, 1) := by decide +kernel
theorem dP_rotate_49 : decode cP_rotate 49 = .ok (.istore 4, 2) := by decide +kernel
theorem dP_rotate_51 : decode cP_rotate 51 = .ok (.aload_n 0, 1) := by decide +kernel
theorem dP_rotate_52 : decode cP_rotate 52 = .ok (.iload_n 1, 1) := by decide +kernel
theorem dP_rotate_53 : decode cP_rotate 53 = .ok (.ifCond .eq 8, 3) := by decide +kernel
theorem dP_rotate_56 : decode cP_rotate 56 = .ok (.bipush 6, 2) := by decide +kernel
theorem dP_rotate_58 : decode cP_rotate 58 = .ok (.goto 5, 3) := by decide +kernel
theorem dP_rotate_61 : decode cP_rotate 61 = .ok (.iload 4, 2) := by decide +kernel
theorem dP_rotate_63 : decode cP_rotate 63 = .ok (.invokevirtual 76, 3) := by decide +kernel
theorem dP_rotate_66 : decode cP_rotate 66 = .ok (.istore 5, 2) := by decide +kernel
theorem dP_rotate_68 : decode cP_rotate 68 = .ok (.iload_n 2, 1) := by decide +kernel
theorem dP_rotate_69 : decode cP_rotate 69 = .ok (.bipush 6, 2) := by decide +kernel
theorem dP_rotate_71 : decode cP_rotate 71 = .ok (.ishr, 1) := by decide +kernel
theorem dP_rotate_72 : decode cP_rotate 72 = .ok (.iconst 1, 1) := by decide +kernel
theorem dP_rotate_73 : decode cP_rotate 73 = .ok (.if_icmp .ne 20, 3) := by decide +kernel
theorem dP_rotate_76 : decode cP_rotate 76 = .ok (.aload_n 0, 1) := by decide +kernel
theorem dP_rotate_77 : decode cP_rotate 77 = .ok (.getfield 20, 3) := by decide +kernel
theorem dP_rotate_80 : decode cP_rotate 80 = .ok (.iconst 1, 1) := by decide +kernel
theorem dP_rotate_81 : decode cP_rotate 81 = .ok (.iload_n 3, 1) := by decide +kernel
theorem dP_rotate_82 : decode cP_rotate 82 = .ok (.iload 5, 2) := by decide +kernel
theorem dP_rotate_84 : decode cP_rotate 84 = .ok (.aload_n 0, 1) := by decide +kernel
theorem dP_rotate_85 : decode cP_rotate 85 = .ok (.invokevirtual 193, 3) := by decide +kernel
theorem dP_rotate_88 : decode cP_rotate 88 = .ok (.invokestatic 223, 3) := by decide +kernel
theorem dP_rotate_91 : decode cP_rotate 91 = .ok (.iastore, 1) := by decide +kernel
theorem dP_rotate_92 : decode cP_rotate 92 = .ok (.return_, 1) := by decide +kernel
theorem dP_rotate_93 : decode cP_rotate 93 = .ok (.aload_n 0, 1) := by decide +kernel
theorem dP_rotate_94 : decode cP_rotate 94 = .ok (.iload_n 2, 1) := by decide +kernel
theorem dP_rotate_95 : decode cP_rotate 95 = .ok (.bipush 6, 2) := by decide +kernel
theorem dP_rotate_97 : decode cP_rotate 97 = .ok (.ishr, 1) := by decide +kernel
theorem dP_rotate_98 : decode cP_rotate 98 = .ok (.iload_n 3, 1) := by decide +kernel
theorem dP_rotate_99 : decode cP_rotate 99 = .ok (.iload 5, 2) := by decide +kernel
theorem dP_rotate_101 : decode cP_rotate 101 = .ok (.invokevirtual 226, 3) := by decide +kernel
theorem dP_rotate_104 : decode cP_rotate 104 = .ok (.istore 6, 2) := by decide +kernel
theorem dP_rotate_106 : decode cP_rotate 106 = .ok (.iload_n 1, 1) := by decide +kernel
theorem dP_rotate_107 : decode cP_rotate 107 = .ok (.ifCond .eq 11, 3) := by decide +kernel
theorem dP_rotate_110 : decode cP_rotate 110 = .ok (.aload_n 0, 1) := by decide +kernel
theorem dP_rotate_111 : decode cP_rotate 111 = .ok (.bipush 6, 2) := by decide +kernel
theorem dP_rotate_113 : decode cP_rotate 113 = .ok (.iload 6, 2) := by decide +kernel
theorem dP_rotate_115 : decode cP_rotate 115 = .ok (.invokevirtual 79, 3) := by decide +kernel
theorem dP_rotate_118 : decode cP_rotate 118 = .ok (.iload_n 1, 1) := by decide +kernel
theorem dP_rotate_119 : decode cP_rotate 119 = .ok (.ifCond .eq 10, 3) := by decide +kernel
theorem dP_rotate_122 : decode cP_rotate 122 = .ok (.iload 4, 2) := by decide +kernel
theorem dP_rotate_124 : decode cP_rotate 124 = .ok (.bipush 6, 2) := by decide +kernel
theorem dP_rotate_126 : decode cP_rotate 126 = .ok (.if_icmp .eq 11, 3) := by decide +kernel
theorem dP_rotate_129 : decode cP_rotate 129 = .ok (.aload_n 0, 1) := by decide +kernel
theorem dP_rotate_130 : decode cP_rotate 130 = .ok (.iload 4, 2) := by decide +kernel
theorem dP_rotate_132 : decode cP_rotate 132 = .ok (.iload 6, 2) := by decide +kernel
theorem dP_rotate_134 : decode cP_rotate 134 = .ok (.invokevirtual 79, 3) := by decide +kernel
theorem dP_rotate_137 : decode cP_rotate 137 = .ok (.return_, 1) := by decide +kernel
theorem dP_changedByte_0 : decode cP_changedByte 0 = .ok (.iload_n 1, 1) := by decide +kernel
theorem dP_changedByte_1 : decode cP_changedByte 1 = .ok (.iconst 2, 1) := by decide +kernel
theorem dP_changedByte_2 : decode cP_changedByte 2 = .ok (.if_icmp .ne 11, 3) := by decide +kernel
theorem dP_changedByte_5 : decode cP_changedByte 5 = .ok (.iload_n 3, 1) := by decide +kernel
theorem dP_changedByte_6 : decode cP_changedByte 6 = .ok (.iconst 1, 1) := by decide +kernel
theorem dP_changedByte_7 : decode cP_changedByte 7 = .ok (.iload_n 2, 1) := by decide +kernel
theorem dP_changedByte_8 : decode cP_changedByte 8 = .ok (.ishl, 1) := by decide +kernel
theorem dP_changedByte_9 : decode cP_changedByte 9 = .ok (.iconst (-1), 1) := by decide +kernel
theorem dP_changedByte_10 : decode cP_changedByte 10 = .ok (.ixor, 1) := by decide +kernel
theorem dP_changedByte_11 : decode cP_changedByte 11 = .ok (.iand, 1) := by decide +kernel
theorem dP_changedByte_12 : decode cP_changedByte 12 = .ok (.ireturn, 1) := by decide +kernel
theorem dP_changedByte_13 : decode cP_changedByte 13 = .ok (.iload_n 1, 1) := by decide +kernel
theorem dP_changedByte_14 : decode cP_changedByte 14 = .ok (.iconst 3, 1) := by decide +kernel
theorem dP_changedByte_15 : decode cP_changedByte 15 = .ok (.if_icmp .ne 9, 3) := by decide +kernel
theorem dP_changedByte_18 : decode cP_changedByte 18 = .ok (.iload_n 3, 1) := by decide +kernel
theorem dP_changedByte_19 : decode cP_changedByte 19 = .ok (.iconst 1, 1) := by decide +kernel
theorem dP_changedByte_20 : decode cP_changedByte 20 = .ok (.iload_n 2, 1) := by decide +kernel
theorem dP_changedByte_21 : decode cP_changedByte 21 = .ok (.ishl, 1) := by decide +kernel
theorem dP_changedByte_22 : decode cP_changedByte 22 = .ok (.ior, 1) := by decide +kernel
theorem dP_changedByte_23 : decode cP_changedByte 23 = .ok (.ireturn, 1) := by decide +kernel
theorem dP_changedByte_24 : decode cP_changedByte 24 = .ok (.iload_n 2, 1) := by decide +kernel
theorem dP_changedByte_25 : decode cP_changedByte 25 = .ok (.iload_n 3, 1) := by decide +kernel
theorem dP_changedByte_26 : decode cP_changedByte 26 = .ok (.aload_n 0, 1) := by decide +kernel
theorem dP_changedByte_27 : decode cP_changedByte 27 = .ok (.invokevirtual 193, 3) := by decide +kernel
theorem dP_changedByte_30 : decode cP_changedByte 30 = .ok (.invokestatic 196, 3) := by decide +kernel
theorem dP_changedByte_33 : decode cP_changedByte 33 = .ok (.istore 4, 2) := by decide +kernel
theorem dP_changedByte_35 : decode cP_changedByte 35 = .ok (.aload_n 0, 1) := by decide +kernel
theorem dP_changedByte_36 : decode cP_changedByte 36 = .ok (.getfield 20, 3) := by decide +kernel
theorem dP_changedByte_39 : decode cP_changedByte 39 = .ok (.iconst 1, 1) := by decide +kernel
theorem dP_changedByte_40 : decode cP_changedByte 40 = .ok (.iload 4, 2) := by decide +kernel
theorem dP_changedByte_42 : decode cP_changedByte 42 = .ok (.sipush 255, 3) := by decide +kernel
theorem dP_changedByte_45 : decode cP_changedByte 45 = .ok (.iand, 1) := by decide +kernel
theorem dP_changedByte_46 : decode cP_changedByte 46 = .ok (.iastore, 1) := by decide +kernel
theorem dP_changedByte_47 : decode cP_changedByte 47 = .ok (.iload 4, 2) := by decide +kernel
theorem dP_changedByte_49 : decode cP_changedByte 49 = .ok (.bipush 8, 2) := by decide +kernel
theorem dP_changedByte_51 : decode cP_changedByte 51 = .ok (.ishr, 1) := by decide +kernel
theorem dP_changedByte_52 : decode cP_changedByte 52 = .ok (.ireturn, 1) := by decide +kernel
theorem dP_more_0 : decode cP_more 0 = .ok (.iload_n 1, 1) := by decide +kernel
theorem dP_more_1 : decode cP_more 1 = .ok (.iconst 3, 1) := by decide +kernel
theorem dP_more_2 : decode cP_more 2 = .ok (.ishr, 1) := by decide +kernel
theorem dP_more_3 : decode cP_more 3 = .ok (.bipush 7, 2) := by decide +kernel
theorem dP_more_5 : decode cP_more 5 = .ok (.iand, 1) := by decide +kernel
theorem dP_more_6 : decode cP_more 6 = .ok (.istore_n 2, 1) := by decide +kernel
theorem dP_more_7 : decode cP_more 7 = .ok (.iload_n 1, 1) := by decide +kernel
theorem dP_more_8 : decode cP_more 8 = .ok (.bipush 7, 2) := by decide +kernel
theorem dP_more_10 : decode cP_more 10 = .ok (.iand, 1) := by decide +kernel
theorem dP_more_11 : decode cP_more 11 = .ok (.istore_n 3, 1) := by decide +kernel
theorem dP_more_12 : decode cP_more 12 = .ok (.iload_n 1, 1) := by decide +kernel
theorem dP_more_13 : decode cP_more 13 = .ok (.bipush 6, 2) := by decide +kernel
theorem dP_more_15 : decode cP_more 15 = .ok (.ishr, 1) := by decide +kernel
theorem dP_more_16 : decode cP_more 16 = .ok (.iconst 2, 1) := by decide +kernel
theorem dP_more_17 : decode cP_more 17 = .ok (.if_icmp .ne 30, 3) := by decide +kernel
theorem dP_more_20 : decode cP_more 20 = .ok (.iload_n 2, 1) := by decide +kernel
theorem dP_more_21 : decode cP_more 21 = .ok (.iconst 4, 1) := by decide +kernel
theorem dP_more_22 : decode cP_more 22 = .ok (.if_icmp .lt 25, 3) := by decide +kernel
theorem dP_more_25 : decode cP_more 25 = .ok (.iload_n 3, 1) := by decide +kernel
theorem dP_more_26 : decode cP_more 26 = .ok (.iconst 2, 1) := by decide +kernel
theorem dP_more_27 : decode cP_more 27 = .ok (.if_icmp .ge 20, 3) := by decide +kernel
