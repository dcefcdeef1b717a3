theorem dM_more_340 : decode cM_more 340 = .ok (.getfield 13, 3) := by decide +kernel
theorem dM_more_343 : decode cM_more 343 = .ok (.iconst 0, 1) := by decide +kernel
theorem dM_more_344 : decode cM_more 344 = .ok (.iconst 0, 1) := by decide +kernel
theorem dM_more_345 : decode cM_more 345 = .ok (.iastore, 1) := by decide +kernel
theorem dM_more_346 : decode cM_more 346 = .ok (.aload_n 0, 1) := by decide +kernel
theorem dM_more_347 : decode cM_more 347 = .ok (.iconst 2, 1) := by decide +kernel
theorem dM_more_348 : decode cM_more 348 = .ok (.iload 6, 2) := by decide +kernel
theorem dM_more_350 : decode cM_more 350 = .ok (.invokevirtual 179, 3) := by decide +kernel
theorem dM_more_353 : decode cM_more 353 = .ok (.goto 73, 3) := by decide +kernel
theorem dM_more_356 : decode cM_more 356 = .ok (.iload_n 3, 1) := by decide +kernel
theorem dM_more_357 : decode cM_more 357 = .ok (.iconst 5, 1) := by decide +kernel
theorem dM_more_358 : decode cM_more 358 = .ok (.if_icmp .ne 31, 3) := by decide +kernel
theorem dM_more_361 : decode cM_more 361 = .ok (.aload_n 0, 1) := by decide +kernel
theorem dM_more_362 : decode cM_more 362 = .ok (.getfield 13, 3) := by decide +kernel
theorem dM_more_365 : decode cM_more 365 = .ok (.bipush 21, 2) := by decide +kernel
theorem dM_more_367 : decode cM_more 367 = .ok (.aload_n 0, 1) := by decide +kernel
theorem dM_more_368 : decode cM_more 368 = .ok (.invokevirtual 230, 3) := by decide +kernel
theorem dM_more_371 : decode cM_more 371 = .ok (.iastore, 1) := by decide +kernel
theorem dM_more_372 : decode cM_more 372 = .ok (.aload_n 0, 1) := by decide +kernel
theorem dM_more_373 : decode cM_more 373 = .ok (.getfield 13, 3) := by decide +kernel
theorem dM_more_376 : decode cM_more 376 = .ok (.bipush 22, 2) := by decide +kernel
theorem dM_more_378 : decode cM_more 378 = .ok (.aload_n 0, 1) := by decide +kernel
theorem dM_more_379 : decode cM_more 379 = .ok (.getfield 13, 3) := by decide +kernel
theorem dM_more_382 : decode cM_more 382 = .ok (.bipush 23, 2) := by decide +kernel
theorem dM_more_384 : decode cM_more 384 = .ok (.iaload, 1) := by decide +kernel
theorem dM_more_385 : decode cM_more 385 = .ok (.iastore, 1) := by decide +kernel
theorem dM_more_386 : decode cM_more 386 = .ok (.goto 40, 3) := by decide +kernel
theorem dM_more_389 : decode cM_more 389 = .ok (.iload_n 3, 1) := by decide +kernel
theorem dM_more_390 : decode cM_more 390 = .ok (.bipush 6, 2) := by decide +kernel
theorem dM_more_392 : decode cM_more 392 = .ok (.if_icmp .ne 29, 3) := by decide +kernel
theorem dM_more_395 : decode cM_more 395 = .ok (.aload_n 0, 1) := by decide +kernel
theorem dM_more_396 : decode cM_more 396 = .ok (.getfield 13, 3) := by decide +kernel
theorem dM_more_399 : decode cM_more 399 = .ok (.bipush 24, 2) := by decide +kernel
theorem dM_more_401 : decode cM_more 401 = .ok (.iload_n 2, 1) := by decide +kernel
theorem dM_more_402 : decode cM_more 402 = .ok (.iconst 3, 1) := by decide +kernel
theorem dM_more_403 : decode cM_more 403 = .ok (.iand, 1) := by decide +kernel
theorem dM_more_404 : decode cM_more 404 = .ok (.iconst 2, 1) := by decide +kernel
theorem dM_more_405 : decode cM_more 405 = .ok (.if_icmp .ge 7, 3) := by decide +kernel
theorem dM_more_408 : decode cM_more 408 = .ok (.iconst 0, 1) := by decide +kernel
theorem dM_more_409 : decode cM_more 409 = .ok (.goto 8, 3) := by decide +kernel
theorem dM_more_412 : decode cM_more 412 = .ok (.iload_n 2, 1) := by decide +kernel
theorem dM_more_413 : decode cM_more 413 = .ok (.iconst 3, 1) := by decide +kernel
theorem dM_more_414 : decode cM_more 414 = .ok (.iand, 1) := by decide +kernel
theorem dM_more_415 : decode cM_more 415 = .ok (.iconst 1, 1) := by decide +kernel
theorem dM_more_416 : decode cM_more 416 = .ok (.isub, 1) := by decide +kernel
theorem dM_more_417 : decode cM_more 417 = .ok (.iastore, 1) := by decide +kernel
theorem dM_more_418 : decode cM_more 418 = .ok (.goto 8, 3) := by decide +kernel
theorem dM_more_421 : decode cM_more 421 = .ok (.aload_n 0, 1) := by decide +kernel
theorem dM_more_422 : decode cM_more 422 = .ok (.iload_n 2, 1) := by decide +kernel
theorem dM_more_423 : decode cM_more 423 = .ok (.invokevirtual 245, 3) := by decide +kernel
theorem dM_more_426 : decode cM_more 426 = .ok (.return_, 1) := by decide +kernel
theorem dM_special_0 : decode cM_special 0 = .ok (.iload_n 1, 1) := by decide +kernel
theorem dM_special_1 : decode cM_special 1 = .ok (.iconst 2, 1) := by decide +kernel
theorem dM_special_2 : decode cM_special 2 = .ok (.if_icmp .ge 21, 3) := by decide +kernel
theorem dM_special_5 : decode cM_special 5 = .ok (.aload_n 0, 1) := by decide +kernel
theorem dM_special_6 : decode cM_special 6 = .ok (.getfield 13, 3) := by decide +kernel
theorem dM_special_9 : decode cM_special 9 = .ok (.bipush 16, 2) := by decide +kernel
theorem dM_special_11 : decode cM_special 11 = .ok (.iload_n 1, 1) := by decide +kernel
theorem dM_special_12 : decode cM_special 12 = .ok (.iadd, 1) := by decide +kernel
theorem dM_special_13 : decode cM_special 13 = .ok (.aload_n 0, 1) := by decide +kernel
theorem dM_special_14 : decode cM_special 14 = .ok (.getfield 13, 3) := by decide +kernel
theorem dM_special_17 : decode cM_special 17 = .ok (.iconst 0, 1) := by decide +kernel
theorem dM_special_18 : decode cM_special 18 = .ok (.iaload, 1) := by decide +kernel
theorem dM_special_19 : decode cM_special 19 = .ok (.iastore, 1) := by decide +kernel
theorem dM_special_20 : decode cM_special 20 = .ok (.goto 193, 3) := by decide +kernel
theorem dM_special_23 : decode cM_special 23 = .ok (.iload_n 1, 1) := by decide +kernel
theorem dM_special_24 : decode cM_special 24 = .ok (.iconst 4, 1) := by decide +kernel
theorem dM_special_25 : decode cM_special 25 = .ok (.if_icmp .ge 62, 3) := by decide +kernel
theorem dM_special_28 : decode cM_special 28 = .ok (.aload_n 0, 1) := by decide +kernel
theorem dM_special_29 : decode cM_special 29 = .ok (.getfield 13, 3) := by decide +kernel
theorem dM_special_32 : decode cM_special 32 = .ok (.iconst 0, 1) := by decide +kernel
theorem dM_special_33 : decode cM_special 33 = .ok (.aload_n 0, 1) := by decide +kernel
theorem dM_special_34 : decode cM_special 34 = .ok (.getfield 13, 3) := by decide +kernel
theorem dM_special_37 : decode cM_special 37 = .ok (.bipush 14, 2) := by decide +kernel
theorem dM_special_39 : decode cM_special 39 = .ok (.iload_n 1, 1) := by decide +kernel
theorem dM_special_40 : decode cM_special 40 = .ok (.iadd, 1) := by decide +kernel
theorem dM_special_41 : decode cM_special 41 = .ok (.iaload, 1) := by decide +kernel
theorem dM_special_42 : decode cM_special 42 = .ok (.iastore, 1) := by decide +kernel
theorem dM_special_43 : decode cM_special 43 = .ok (.aload_n 0, 1) := by decide +kernel
theorem dM_special_44 : decode cM_special 44 = .ok (.getfield 13, 3) := by decide +kernel
theorem dM_special_47 : decode cM_special 47 = .ok (.iconst 1, 1) := by decide +kernel
theorem dM_special_48 : decode cM_special 48 = .ok (.aload_n 0, 1) := by decide +kernel
theorem dM_special_49 : decode cM_special 49 = .ok (.getfield 13, 3) := by decide +kernel
theorem dM_special_52 : decode cM_special 52 = .ok (.iconst 1, 1) := by decide +kernel
theorem dM_special_53 : decode cM_special 53 = .ok (.iaload, 1) := by decide +kernel
theorem dM_special_54 : decode cM_special 54 = .ok (.iconst 1, 1) := by decide +kernel
theorem dM_special_55 : decode cM_special 55 = .ok (.iand, 1) := by decide +kernel
theorem dM_special_56 : decode cM_special 56 = .ok (.aload_n 0, 1) := by decide +kernel
theorem dM_special_57 : decode cM_special 57 = .ok (.getfield 13, 3) := by decide +kernel
theorem dM_special_60 : decode cM_special 60 = .ok (.iconst 0, 1) := by decide +kernel
theorem dM_special_61 : decode cM_special 61 = .ok (.iaload, 1) := by decide +kernel
theorem dM_special_62 : decode cM_special 62 = .ok (.invokestatic 98, 3) := by decide +kernel
theorem dM_special_65 : decode cM_special 65 = .ok (.ior, 1) := by decide +kernel
theorem dM_special_66 : decode cM_special 66 = .ok (.aload_n 0, 1) := by decide +kernel
theorem dM_special_67 : decode cM_special 67 = .ok (.getfield 13, 3) := by decide +kernel
theorem dM_special_70 : decode cM_special 70 = .ok (.bipush 23, 2) := by decide +kernel
theorem dM_special_72 : decode cM_special 72 = .ok (.iaload, 1) := by decide +kernel
theorem dM_special_73 : decode cM_special 73 = .ok (.iconst 1, 1) := by decide +kernel
theorem dM_special_74 : decode cM_special 74 = .ok (.if_icmp .ne 7, 3) := by decide +kernel
theorem dM_special_77 : decode cM_special 77 = .ok (.iconst 4, 1) := by decide +kernel
theorem dM_special_78 : decode cM_special 78 = .ok (.goto 4, 3) := by decide +kernel
theorem dM_special_81 : decode cM_special 81 = .ok (.iconst 0, 1) := by decide +kernel
theorem dM_special_82 : decode cM_special 82 = .ok (.ior, 1) := by decide +kernel
theorem dM_special_83 : decode cM_special 83 = .ok (.iastore, 1) := by decide +kernel
theorem dM_special_84 : decode cM_special 84 = .ok (.goto 129, 3) := by decide +kernel
theorem dM_special_87 : decode cM_special 87 = .ok (.iload_n 1, 1) := by decide +kernel
theorem dM_special_88 : decode cM_special 88 = .ok (.bipush 6, 2) := by decide +kernel
theorem dM_special_90 : decode cM_special 90 = .ok (.if_icmp .ge 123, 3) := by decide +kernel
theorem dM_special_93 : decode cM_special 93 = .ok (.aload_n 0, 1) := by decide +kernel
theorem dM_special_94 : decode cM_special 94 = .ok (.getfield 13, 3) := by decide +kernel
theorem dM_special_97 : decode cM_special 97 = .ok (.iconst 0, 1) := by decide +kernel
theorem dM_special_98 : decode cM_special 98 = .ok (.iaload, 1) := by decide +kernel
theorem dM_special_99 : decode cM_special 99 = .ok (.istore_n 2, 1) := by decide +kernel
theorem dM_special_100 : decode cM_special 100 = .ok (.aload_n 0, 1) := by decide +kernel
theorem dM_special_101 : decode cM_special 101 = .ok (.aload_n 0, 1) := by decide +kernel
theorem dM_special_102 : decode cM_special 102 = .ok (.bipush 6, 2) := by decide +kernel
theorem dM_special_104 : decode cM_special 104 = .ok (.invokevirtual 62, 3) := by decide +kernel
theorem dM_special_107 : decode cM_special 107 = .ok (.invokevirtual 48, 3) := by decide +kernel
theorem dM_special_110 : decode cM_special 110 = .ok (.istore_n 3, 1) := by decide +kernel
theorem dM_special_111 : decode cM_special 111 = .ok (.aload_n 0, 1) := by decide +kernel
theorem dM_special_112 : decode cM_special 112 = .ok (.aload_n 0, 1) := by decide +kernel
theorem dM_special_113 : decode cM_special 113 = .ok (.bipush 6, 2) := by decide +kernel
theorem dM_special_115 : decode cM_special 115 = .ok (.invokevirtual 62, 3) := by decide +kernel
theorem dM_special_118 : decode cM_special 118 = .ok (.iload_n 1, 1) := by decide +kernel
theorem dM_special_119 : decode cM_special 119 = .ok (.iconst 4, 1) := by decide +kernel
theorem dM_special_120 : decode cM_special 120 = .ok (.if_icmp .ne 17, 3) := by decide +kernel
theorem dM_special_123 : decode cM_special 123 = .ok (.bipush 16, 2) := by decide +kernel
theorem dM_special_125 : decode cM_special 125 = .ok (.iload_n 2, 1) := by decide +kernel
theorem dM_special_126 : decode cM_special 126 = .ok (.bipush 15, 2) := by decide +kernel
theorem dM_special_128 : decode cM_special 128 = .ok (.iand, 1) := by decide +kernel
theorem dM_special_129 : decode cM_special 129 = .ok (.imul, 1) := by decide +kernel
theorem dM_special_130 : decode cM_special 130 = .ok (.iload_n 3, 1) := by decide +kernel
theorem dM_special_131 : decode cM_special 131 = .ok (.iconst 4, 1) := by decide +kernel
theorem dM_special_132 : decode cM_special 132 = .ok (.ishr, 1) := by decide +kernel
theorem dM_special_133 : decode cM_special 133 = .ok (.iadd, 1) := by decide +kernel
theorem dM_special_134 : decode cM_special 134 = .ok (.goto 15, 3) := by decide +kernel
theorem dM_special_137 : decode cM_special 137 = .ok (.bipush 16, 2) := by decide +kernel
theorem dM_special_139 : decode cM_special 139 = .ok (.iload_n 3, 1) := by decide +kernel
theorem dM_special_140 : decode cM_special 140 = .ok (.bipush 15, 2) := by decide +kernel
theorem dM_special_142 : decode cM_special 142 = .ok (.iand, 1) := by decide +kernel
theorem dM_special_143 : decode cM_special 143 = .ok (.imul, 1) := by decide +kernel
theorem dM_special_144 : decode cM_special 144 = .ok (.iload_n 2, 1) := by decide +kernel
theorem dM_special_145 : decode cM_special 145 = .ok (.bipush 15, 2) := by decide +kernel
theorem dM_special_147 : decode cM_special 147 = .ok (.iand, 1) := by decide +kernel
theorem dM_special_148 : decode cM_special 148 = .ok (.iadd, 1) := by decide +kernel
theorem dM_special_149 : decode cM_special 149 = .ok (.invokevirtual 56, 3) := by decide +kernel
theorem dM_special_152 : decode cM_special 152 = .ok (.aload_n 0, 1) := by decide +kernel
theorem dM_special_153 : decode cM_special 153 = .ok (.getfield 13, 3) := by decide +kernel
theorem dM_special_156 : decode cM_special 156 = .ok (.iconst 0, 1) := by decide +kernel
theorem dM_special_157 : decode cM_special 157 = .ok (.iload_n 2, 1) := by decide +kernel
theorem dM_special_158 : decode cM_special 158 = .ok (.sipush 240, 3) := by decide +kernel
theorem dM_special_161 : decode cM_special 161 = .ok (.iand, 1) := by decide +kernel
theorem dM_special_162 : decode cM_special 162 = .ok (.iload_n 1, 1) := by decide +kernel
theorem dM_special_163 : decode cM_special 163 = .ok (.iconst 4, 1) := by decide +kernel
theorem dM_special_164 : decode cM_special 164 = .ok (.if_icmp .ne 10, 3) := by decide +kernel
theorem dM_special_167 : decode cM_special 167 = .ok (.iload_n 3, 1) := by decide +kernel
theorem dM_special_168 : decode cM_special 168 = .ok (.bipush 15, 2) := by decide +kernel
theorem dM_special_170 : decode cM_special 170 = .ok (.iand, 1) := by decide +kernel
theorem dM_special_171 : decode cM_special 171 = .ok (.goto 6, 3) := by decide +kernel
theorem dM_special_174 : decode cM_special 174 = .ok (.iload_n 3, 1) := by decide +kernel
theorem dM_special_175 : decode cM_special 175 = .ok (.iconst 4, 1) := by decide +kernel
theorem dM_special_176 : decode cM_special 176 = .ok (.ishr, 1) := by decide +kernel
theorem dM_special_177 : decode cM_special 177 = .ok (.ior, 1) := by decide +kernel
theorem dM_special_178 : decode cM_special 178 = .ok (.iastore, 1) := by decide +kernel
theorem dM_special_179 : decode cM_special 179 = .ok (.aload_n 0, 1) := by decide +kernel
theorem dM_special_180 : decode cM_special 180 = .ok (.getfield 13, 3) := by decide +kernel
theorem dM_special_183 : decode cM_special 183 = .ok (.iconst 1, 1) := by decide +kernel
theorem dM_special_184 : decode cM_special 184 = .ok (.aload_n 0, 1) := by decide +kernel
theorem dM_special_185 : decode cM_special 185 = .ok (.getfield 13, 3) := by decide +kernel
theorem dM_special_188 : decode cM_special 188 = .ok (.iconst 1, 1) := by decide +kernel
theorem dM_special_189 : decode cM_special 189 = .ok (.iaload, 1) := by decide +kernel
theorem dM_special_190 : decode cM_special 190 = .ok (.iconst 1, 1) := by decide +kernel
theorem dM_special_191 : decode cM_special 191 = .ok (.iand, 1) := by decide +kernel
theorem dM_special_192 : decode cM_special 192 = .ok (.aload_n 0, 1) := by decide +kernel
theorem dM_special_193 : decode cM_special 193 = .ok (.getfield 13, 3) := by decide +kernel
theorem dM_special_196 : decode cM_special 196 = .ok (.iconst 0, 1) := by decide +kernel
theorem dM_special_197 : decode cM_special 197 = .ok (.iaload, 1) := by decide +kernel
theorem dM_special_198 : decode cM_special 198 = .ok (.invokestatic 98, 3) := by decide +kernel
theorem dM_special_201 : decode cM_special 201 = .ok (.ior, 1) := by decide +kernel
theorem dM_special_202 : decode cM_special 202 = .ok (.aload_n 0, 1) := by decide +kernel
theorem dM_special_203 : decode cM_special 203 = .ok (.getfield 13, 3) := by decide +kernel
theorem dM_special_206 : decode cM_special 206 = .ok (.iconst 0, 1) := by decide +kernel
theorem dM_special_207 : decode cM_special 207 = .ok (.iaload, 1) := by decide +kernel
theorem dM_special_208 : decode cM_special 208 = .ok (.invokestatic 107, 3) := by decide +kernel
theorem dM_special_211 : decode cM_special 211 = .ok (.ior, 1) := by decide +kernel
theorem dM_special_212 : decode cM_special 212 = .ok (.iastore, 1) := by decide +kernel
theorem dM_special_213 : decode cM_special 213 = .ok (.return_, 1) := by decide +kernel
theorem dM_move_0 : decode cM_move 0 = .ok (.iload_n 1, 1) := by decide +kernel
theorem dM_move_1 : decode cM_move 1 = .ok (.iconst 2, 1) := by decide +kernel
theorem dM_move_2 : decode cM_move 2 = .ok (.irem, 1) := by decide +kernel
theorem dM_move_3 : decode cM_move 3 = .ok (.ifCond .ne 7, 3) := by decide +kernel
theorem dM_move_6 : decode cM_move 6 = .ok (.iconst 1, 1) := by decide +kernel
theorem dM_move_7 : decode cM_move 7 = .ok (.goto 4, 3) := by decide +kernel
theorem dM_move_10 : decode cM_move 10 = .ok (.iconst (-1), 1) := by decide +kernel
theorem dM_move_11 : decode cM_move 11 = .ok (.istore_n 3, 1) := by decide +kernel
theorem dM_move_12 : decode cM_move 12 = .ok (.aload_n 0, 1) := by decide +kernel
theorem dM_move_13 : decode cM_move 13 = .ok (.aload_n 0, 1) := by decide +kernel
theorem dM_move_14 : decode cM_move 14 = .ok (.bipush 6, 2) := by decide +kernel
theorem dM_move_16 : decode cM_move 16 = .ok (.invokevirtual 62, 3) := by decide +kernel
theorem dM_move_19 : decode cM_move 19 = .ok (.invokevirtual 48, 3) := by decide +kernel
theorem dM_move_22 : decode cM_move 22 = .ok (.istore 4, 2) := by decide +kernel
theorem dM_move_24 : decode cM_move 24 = .ok (.aload_n 0, 1) := by decide +kernel
theorem dM_move_25 : decode cM_move 25 = .ok (.getfield 13, 3) := by decide +kernel
theorem dM_move_28 : decode cM_move 28 = .ok (.iconst 1, 1) := by decide +kernel
theorem dM_move_29 : decode cM_move 29 = .ok (.iaload, 1) := by decide +kernel
theorem dM_move_30 : decode cM_move 30 = .ok (.iconst 1, 1) := by decide +kernel
theorem dM_move_31 : decode cM_move 31 = .ok (.iand, 1) := by decide +kernel
theorem dM_move_32 : decode cM_move 32 = .ok (.istore 5, 2) := by decide +kernel
theorem dM_move_34 : decode cM_move 34 = .ok (.aload_n 0, 1) := by decide +kernel
theorem dM_move_35 : decode cM_move 35 = .ok (.getfield 13, 3) := by decide +kernel
theorem dM_move_38 : decode cM_move 38 = .ok (.iconst 0, 1) := by decide +kernel
theorem dM_move_39 : decode cM_move 39 = .ok (.iaload, 1) := by decide +kernel
theorem dM_move_40 : decode cM_move 40 = .ok (.iload 4, 2) := by decide +kernel
theorem dM_move_42 : decode cM_move 42 = .ok (.iadd, 1) := by decide +kernel
theorem dM_move_43 : decode cM_move 43 = .ok (.istore 6, 2) := by decide +kernel
theorem dM_move_45 : decode cM_move 45 = .ok (.iconst 0, 1) := by decide +kernel
theorem dM_move_46 : decode cM_move 46 = .ok (.istore 7, 2) := by decide +kernel
theorem dM_move_48 : decode cM_move 48 = .ok (.iload_n 2, 1) := by decide +kernel
theorem dM_move_49 : decode cM_move 49 = .ok (.ifCond .eq 92, 3) := by decide +kernel
theorem dM_move_52 : decode cM_move 52 = .ok (.aload_n 0, 1) := by decide +kernel
theorem dM_move_53 : decode cM_move 53 = .ok (.aload_n 0, 1) := by decide +kernel
theorem dM_move_54 : decode cM_move 54 = .ok (.getfield 13, 3) := by decide +kernel
theorem dM_move_57 : decode cM_move 57 = .ok (.iconst 0, 1) := by decide +kernel
theorem dM_move_58 : decode cM_move 58 = .ok (.iaload, 1) := by decide +kernel
theorem dM_move_59 : decode cM_move 59 = .ok (.iload 4, 2) := by decide +kernel
theorem dM_move_61 : decode cM_move 61 = .ok (.iconst 0, 1) := by decide +kernel
theorem dM_move_62 : decode cM_move 62 = .ok (.bipush 8, 2) := by decide +kernel
theorem dM_move_64 : decode cM_move 64 = .ok (.invokevirtual 104, 3) := by decide +kernel
theorem dM_move_67 : decode cM_move 67 = .ok (.istore 6, 2) := by decide +kernel
theorem dM_move_69 : decode cM_move 69 = .ok (.iload 6, 2) := by decide +kernel
theorem dM_move_71 : decode cM_move 71 = .ok (.ifCond .ne 7, 3) := by decide +kernel
theorem dM_move_74 : decode cM_move 74 = .ok (.iconst 1, 1) := by decide +kernel
theorem dM_move_75 : decode cM_move 75 = .ok (.goto 4, 3) := by decide +kernel
theorem dM_move_78 : decode cM_move 78 = .ok (.iconst 0, 1) := by decide +kernel
theorem dM_move_79 : decode cM_move 79 = .ok (.istore 7, 2) := by decide +kernel
theorem dM_move_81 : decode cM_move 81 = .ok (.iload 5, 2) := by decide +kernel
theorem dM_move_83 : decode cM_move 83 = .ok (.iload 6, 2) := by decide +kernel
theorem dM_move_85 : decode cM_move 85 = .ok (.sipush 128, 3) := by decide +kernel
theorem dM_move_88 : decode cM_move 88 = .ok (.iand, 1) := by decide +kernel
theorem dM_move_89 : decode cM_move 89 = .ok (.iload 7, 2) := by decide +kernel
theorem dM_move_91 : decode cM_move 91 = .ok (.ifCond .eq 8, 3) := by decide +kernel
theorem dM_move_94 : decode cM_move 94 = .ok (.bipush 64, 2) := by decide +kernel
theorem dM_move_96 : decode cM_move 96 = .ok (.goto 4, 3) := by decide +kernel
theorem dM_move_99 : decode cM_move 99 = .ok (.iconst 0, 1) := by decide +kernel
theorem dM_move_100 : decode cM_move 100 = .ok (.ior, 1) := by decide +kernel
theorem dM_move_101 : decode cM_move 101 = .ok (.iconst 2, 1) := by decide +kernel
theorem dM_move_102 : decode cM_move 102 = .ok (.ior, 1) := by decide +kernel
theorem dM_move_103 : decode cM_move 103 = .ok (.aload_n 0, 1) := by decide +kernel
theorem dM_move_104 : decode cM_move 104 = .ok (.getfield 88, 3) := by decide +kernel
theorem dM_move_107 : decode cM_move 107 = .ok (.ifCond .eq 8, 3) := by decide +kernel
theorem dM_move_110 : decode cM_move 110 = .ok (.bipush 16, 2) := by decide +kernel
theorem dM_move_112 : decode cM_move 112 = .ok (.goto 4, 3) := by decide +kernel
theorem dM_move_115 : decode cM_move 115 = .ok (.iconst 0, 1) := by decide +kernel
theorem dM_move_116 : decode cM_move 116 = .ok (.ior, 1) := by decide +kernel
theorem dM_move_117 : decode cM_move 117 = .ok (.ior, 1) := by decide +kernel
theorem dM_move_118 : decode cM_move 118 = .ok (.istore 5, 2) := by decide +kernel
theorem dM_move_120 : decode cM_move 120 = .ok (.aload_n 0, 1) := by decide +kernel
theorem dM_move_121 : decode cM_move 121 = .ok (.getfield 88, 3) := by decide +kernel
theorem dM_move_124 : decode cM_move 124 = .ok (.ifCond .eq 10, 3) := by decide +kernel
theorem dM_move_127 : decode cM_move 127 = .ok (.iload 6, 2) := by decide +kernel
theorem dM_move_129 : decode cM_move 129 = .ok (.iconst 1, 1) := by decide +kernel
theorem dM_move_130 : decode cM_move 130 = .ok (.isub, 1) := by decide +kernel
theorem dM_move_131 : decode cM_move 131 = .ok (.goto 5, 3) := by decide +kernel
theorem dM_move_134 : decode cM_move 134 = .ok (.iload 6, 2) := by decide +kernel
theorem dM_move_136 : decode cM_move 136 = .ok (.istore 6, 2) := by decide +kernel
theorem dM_move_138 : decode cM_move 138 = .ok (.goto 41, 3) := by decide +kernel
theorem dM_move_141 : decode cM_move 141 = .ok (.aload_n 0, 1) := by decide +kernel
theorem dM_move_142 : decode cM_move 142 = .ok (.aload_n 0, 1) := by decide +kernel
theorem dM_move_143 : decode cM_move 143 = .ok (.iconst 4, 1) := by decide +kernel
theorem dM_move_144 : decode cM_move 144 = .ok (.invokevirtual 62, 3) := by decide +kernel
theorem dM_move_147 : decode cM_move 147 = .ok (.iload 4, 2) := by decide +kernel
theorem dM_move_149 : decode cM_move 149 = .ok (.invokevirtual 56, 3) := by decide +kernel
theorem dM_move_152 : decode cM_move 152 = .ok (.aload_n 0, 1) := by decide +kernel
theorem dM_move_153 : decode cM_move 153 = .ok (.iconst 4, 1) := by decide +kernel
theorem dM_move_154 : decode cM_move 154 = .ok (.aload_n 0, 1) := by decide +kernel
theorem dM_move_155 : decode cM_move 155 = .ok (.iconst 4, 1) := by decide +kernel
theorem dM_move_156 : decode cM_move 156 = .ok (.invokevirtual 62, 3) := by decide +kernel
theorem dM_move_159 : decode cM_move 159 = .ok (.iload_n 3, 1) := by decide +kernel
theorem dM_move_160 : decode cM_move 160 = .ok (.iadd, 1) := by decide +kernel
theorem dM_move_161 : decode cM_move 161 = .ok (.invokevirtual 65, 3) := by decide +kernel
theorem dM_move_164 : decode cM_move 164 = .ok (.iload 5, 2) := by decide +kernel
theorem dM_move_166 : decode cM_move 166 = .ok (.aload_n 0, 1) := by decide +kernel
theorem dM_move_167 : decode cM_move 167 = .ok (.getfield 13, 3) := by decide +kernel
theorem dM_move_170 : decode cM_move 170 = .ok (.iconst 1, 1) := by decide +kernel
theorem dM_move_171 : decode cM_move 171 = .ok (.iaload, 1) := by decide +kernel
theorem dM_move_172 : decode cM_move 172 = .ok (.sipush 192, 3) := by decide +kernel
theorem dM_move_175 : decode cM_move 175 = .ok (.iand, 1) := by decide +kernel
theorem dM_move_176 : decode cM_move 176 = .ok (.ior, 1) := by decide +kernel
theorem dM_move_177 : decode cM_move 177 = .ok (.istore 5, 2) := by decide +kernel
theorem dM_move_179 : decode cM_move 179 = .ok (.aload_n 0, 1) := by decide +kernel
theorem dM_move_180 : decode cM_move 180 = .ok (.bipush 6, 2) := by decide +kernel
theorem dM_move_182 : decode cM_move 182 = .ok (.aload_n 0, 1) := by decide +kernel
theorem dM_move_183 : decode cM_move 183 = .ok (.bipush 6, 2) := by decide +kernel
theorem dM_move_185 : decode cM_move 185 = .ok (.invokevirtual 62, 3) := by decide +kernel
theorem dM_move_188 : decode cM_move 188 = .ok (.iload_n 3, 1) := by decide +kernel
theorem dM_move_189 : decode cM_move 189 = .ok (.iadd, 1) := by decide +kernel
theorem dM_move_190 : decode cM_move 190 = .ok (.invokevirtual 65, 3) := by decide +kernel
theorem dM_move_193 : decode cM_move 193 = .ok (.aload_n 0, 1) := by decide +kernel
theorem dM_move_194 : decode cM_move 194 = .ok (.iconst 2, 1) := by decide +kernel
theorem dM_move_195 : decode cM_move 195 = .ok (.aload_n 0, 1) := by decide +kernel
theorem dM_move_196 : decode cM_move 196 = .ok (.iconst 2, 1) := by decide +kernel
theorem dM_move_197 : decode cM_move 197 = .ok (.invokevirtual 62, 3) := by decide +kernel
theorem dM_move_200 : decode cM_move 200 = .ok (.iconst 1, 1) := by decide +kernel
theorem dM_move_201 : decode cM_move 201 = .ok (.isub, 1) := by decide +kernel
theorem dM_move_202 : decode cM_move 202 = .ok (.invokevirtual 65, 3) := by decide +kernel
theorem dM_move_205 : decode cM_move 205 = .ok (.aload_n 0, 1) := by decide +kernel
theorem dM_move_206 : decode cM_move 206 = .ok (.iconst 2, 1) := by decide +kernel
theorem dM_move_207 : decode cM_move 207 = .ok (.invokevirtual 62, 3) := by decide +kernel
theorem dM_move_210 : decode cM_move 210 = .ok (.ifCond .eq 7, 3) := by decide +kernel
theorem dM_move_213 : decode cM_move 213 = .ok (.iconst 1, 1) := by decide +kernel
theorem dM_move_214 : decode cM_move 214 = .ok (.goto 4, 3) := by decide +kernel
theorem dM_move_217 : decode cM_move 217 = .ok (.iconst 0, 1) := by decide +kernel
theorem dM_move_218 : decode cM_move 218 = .ok (.istore 8, 2) := by decide +kernel
theorem dM_move_220 : decode cM_move 220 = .ok (.aload_n 0, 1) := by decide +kernel
theorem dM_move_221 : decode cM_move 221 = .ok (.getfield 13, 3) := by decide +kernel
theorem dM_move_224 : decode cM_move 224 = .ok (.iconst 1, 1) := by decide +kernel
theorem dM_move_225 : decode cM_move 225 = .ok (.iload 5, 2) := by decide +kernel
theorem dM_move_227 : decode cM_move 227 = .ok (.iload 8, 2) := by decide +kernel
theorem dM_move_229 : decode cM_move 229 = .ok (.ifCond .eq 7, 3) := by decide +kernel
theorem dM_move_232 : decode cM_move 232 = .ok (.iconst 4, 1) := by decide +kernel
theorem dM_move_233 : decode cM_move 233 = .ok (.goto 4, 3) := by decide +kernel
theorem dM_move_236 : decode cM_move 236 = .ok (.iconst 0, 1) := by decide +kernel
theorem dM_move_237 : decode cM_move 237 = .ok (.ior, 1) := by decide +kernel
theorem dM_move_238 : decode cM_move 238 = .ok (.iload 6, 2) := by decide +kernel
theorem dM_move_240 : decode cM_move 240 = .ok (.iconst 2, 1) := by decide +kernel
theorem dM_move_241 : decode cM_move 241 = .ok (.iand, 1) := by decide +kernel
theorem dM_move_242 : decode cM_move 242 = .ok (.ifCond .eq 8, 3) := by decide +kernel
theorem dM_move_245 : decode cM_move 245 = .ok (.bipush 32, 2) := by decide +kernel
theorem dM_move_247 : decode cM_move 247 = .ok (.goto 4, 3) := by decide +kernel
theorem dM_move_250 : decode cM_move 250 = .ok (.iconst 0, 1) := by decide +kernel
theorem dM_move_251 : decode cM_move 251 = .ok (.ior, 1) := by decide +kernel
theorem dM_move_252 : decode cM_move 252 = .ok (.iload 6, 2) := by decide +kernel
theorem dM_move_254 : decode cM_move 254 = .ok (.bipush 8, 2) := by decide +kernel
theorem dM_move_256 : decode cM_move 256 = .ok (.iand, 1) := by decide +kernel
theorem dM_move_257 : decode cM_move 257 = .ok (.ior, 1) := by decide +kernel
theorem dM_move_258 : decode cM_move 258 = .ok (.iastore, 1) := by decide +kernel
theorem dM_move_259 : decode cM_move 259 = .ok (.iload_n 1, 1) := by decide +kernel
theorem dM_move_260 : decode cM_move 260 = .ok (.iconst 5, 1) := by decide +kernel
theorem dM_move_261 : decode cM_move 261 = .ok (.if_icmp .le 32, 3) := by decide +kernel
theorem dM_move_264 : decode cM_move 264 = .ok (.iload 8, 2) := by decide +kernel
theorem dM_move_266 : decode cM_move 266 = .ok (.ifCond .eq 27, 3) := by decide +kernel
theorem dM_move_269 : decode cM_move 269 = .ok (.iload 7, 2) := by decide +kernel
theorem dM_move_271 : decode cM_move 271 = .ok (.ifCond .ne 22, 3) := by decide +kernel
theorem dM_move_274 : decode cM_move 274 = .ok (.aload_n 0, 1) := by decide +kernel
theorem dM_move_275 : decode cM_move 275 = .ok (.getfield 13, 3) := by decide +kernel
theorem dM_move_278 : decode cM_move 278 = .ok (.bipush 21, 2) := by decide +kernel
theorem dM_move_280 : decode cM_move 280 = .ok (.aload_n 0, 1) := by decide +kernel
theorem dM_move_281 : decode cM_move 281 = .ok (.getfield 13, 3) := by decide +kernel
theorem dM_move_284 : decode cM_move 284 = .ok (.bipush 21, 2) := by decide +kernel
theorem dM_move_286 : decode cM_move 286 = .ok (.iaload, 1) := by decide +kernel
theorem dM_move_287 : decode cM_move 287 = .ok (.iconst 2, 1) := by decide +kernel
theorem dM_move_288 : decode cM_move 288 = .ok (.isub, 1) := by decide +kernel
theorem dM_move_289 : decode cM_move 289 = .ok (.ldc 44, 2) := by decide +kernel
theorem dM_move_291 : decode cM_move 291 = .ok (.iand, 1) := by decide +kernel
theorem dM_move_292 : decode cM_move 292 = .ok (.iastore, 1) := by decide +kernel
theorem dM_move_293 : decode cM_move 293 = .ok (.return_, 1) := by decide +kernel
theorem dM_poke_0 : decode cM_poke 0 = .ok (.aload_n 0, 1) := by decide +kernel
theorem dM_poke_1 : decode cM_poke 1 = .ok (.getfield 7, 3) := by decide +kernel
theorem dM_poke_4 : decode cM_poke 4 = .ok (.iload_n 1, 1) := by decide +kernel
theorem dM_poke_5 : decode cM_poke 5 = .ok (.sipush 4095, 3) := by decide +kernel
theorem dM_poke_8 : decode cM_poke 8 = .ok (.iand, 1) := by decide +kernel
theorem dM_poke_9 : decode cM_poke 9 = .ok (.iload_n 2, 1) := by decide +kernel
theorem dM_poke_10 : decode cM_poke 10 = .ok (.sipush 255, 3) := by decide +kernel
theorem dM_poke_13 : decode cM_poke 13 = .ok (.iand, 1) := by decide +kernel
theorem dM_poke_14 : decode cM_poke 14 = .ok (.iastore, 1) := by decide +kernel
theorem dM_poke_15 : decode cM_poke 15 = .ok (.return_, 1) := by decide +kernel
theorem dM_load_0 : decode cM_load 0 = .ok (.iload_n 3, 1) := by decide +kernel
theorem dM_load_1 : decode cM_load 1 = .ok (.iconst 1, 1) := by decide +kernel
theorem dM_load_2 : decode cM_load 2 = .ok (.if_icmp .lt 8, 3) := by decide +kernel
theorem dM_load_5 : decode cM_load 5 = .ok (.iload_n 3, 1) := by decide +kernel
theorem dM_load_6 : decode cM_load 6 = .ok (.iconst 4, 1) := by decide +kernel
theorem dM_load_7 : decode cM_load 7 = .ok (.if_icmp .le 5, 3) := by decide +kernel
theorem dM_load_10 : decode cM_load 10 = .ok (.iconst 0, 1) := by decide +kernel
theorem dM_load_11 : decode cM_load 11 = .ok (.ireturn, 1) := by decide +kernel
theorem dM_load_12 : decode cM_load 12 = .ok (.iconst 0, 1) := by decide +kernel
theorem dM_load_13 : decode cM_load 13 = .ok (.istore 4, 2) := by decide +kernel
theorem dM_load_15 : decode cM_load 15 = .ok (.iload 4, 2) := by decide +kernel
theorem dM_load_17 : decode cM_load 17 = .ok (.iload_n 3, 1) := by decide +kernel
theorem dM_load_18 : decode cM_load 18 = .ok (.if_icmp .ge 36, 3) := by decide +kernel
theorem dM_load_21 : decode cM_load 21 = .ok (.aload_n 0, 1) := by decide +kernel
theorem dM_load_22 : decode cM_load 22 = .ok (.getfield 7, 3) := by decide +kernel
theorem dM_load_25 : decode cM_load 25 = .ok (.iload_n 1, 1) := by decide +kernel
theorem dM_load_26 : decode cM_load 26 = .ok (.iload 4, 2) := by decide +kernel
theorem dM_load_28 : decode cM_load 28 = .ok (.iadd, 1) := by decide +kernel
theorem dM_load_29 : decode cM_load 29 = .ok (.sipush 4095, 3) := by decide +kernel
theorem dM_load_32 : decode cM_load 32 = .ok (.iand, 1) := by decide +kernel
theorem dM_load_33 : decode cM_load 33 = .ok (.iload_n 2, 1) := by decide +kernel
theorem dM_load_34 : decode cM_load 34 = .ok (.bipush 24, 2) := by decide +kernel
theorem dM_load_36 : decode cM_load 36 = .ok (.bipush 8, 2) := by decide +kernel
theorem dM_load_38 : decode cM_load 38 = .ok (.iload 4, 2) := by decide +kernel
theorem dM_load_40 : decode cM_load 40 = .ok (.imul, 1) := by decide +kernel
theorem dM_load_41 : decode cM_load 41 = .ok (.isub, 1) := by decide +kernel
theorem dM_load_42 : decode cM_load 42 = .ok (.ishr, 1) := by decide +kernel
theorem dM_load_43 : decode cM_load 43 = .ok (.sipush 255, 3) := by decide +kernel
theorem dM_load_46 : decode cM_load 46 = .ok (.iand, 1) := by decide +kernel
theorem dM_load_47 : decode cM_load 47 = .ok (.iastore, 1) := by decide +kernel
theorem dM_load_48 : decode cM_load 48 = .ok (.iinc 4 1, 3) := by decide +kernel
theorem dM_load_51 : decode cM_load 51 = .ok (.goto (-36), 3) := by decide +kernel
theorem dM_load_54 : decode cM_load 54 = .ok (.iconst 1, 1) := by decide +kernel
theorem dM_load_55 : decode cM_load 55 = .ok (.ireturn, 1) := by decide +kernel
theorem dM_peek_0 : decode cM_peek 0 = .ok (.aload_n 0, 1) := by decide +kernel
theorem dM_peek_1 : decode cM_peek 1 = .ok (.getfield 7, 3) := by decide +kernel
theorem dM_peek_4 : decode cM_peek 4 = .ok (.iload_n 1, 1) := by decide +kernel
theorem dM_peek_5 : decode cM_peek 5 = .ok (.sipush 4095, 3) := by decide +kernel
theorem dM_peek_8 : decode cM_peek 8 = .ok (.iand, 1) := by decide +kernel
theorem dM_peek_9 : decode cM_peek 9 = .ok (.iaload, 1) := by decide +kernel
theorem dM_peek_10 : decode cM_peek 10 = .ok (.ireturn, 1) := by decide +kernel
theorem dM_set_0 : decode cM_set 0 = .ok (.iload_n 1, 1) := by decide +kernel
theorem dM_set_1 : decode cM_set 1 = .ok (.ifCond .lt 24, 3) := by decide +kernel
theorem dM_set_4 : decode cM_set 4 = .ok (.iload_n 1, 1) := by decide +kernel
theorem dM_set_5 : decode cM_set 5 = .ok (.bipush 24, 2) := by decide +kernel
theorem dM_set_7 : decode cM_set 7 = .ok (.if_icmp .gt 18, 3) := by decide +kernel
theorem dM_set_10 : decode cM_set 10 = .ok (.iload_n 1, 1) := by decide +kernel
theorem dM_set_11 : decode cM_set 11 = .ok (.bipush 24, 2) := by decide +kernel
theorem dM_set_13 : decode cM_set 13 = .ok (.if_icmp .ne 14, 3) := by decide +kernel
theorem dM_set_16 : decode cM_set 16 = .ok (.iload_n 2, 1) := by decide +kernel
theorem dM_set_17 : decode cM_set 17 = .ok (.ifCond .lt 8, 3) := by decide +kernel
theorem dM_set_20 : decode cM_set 20 = .ok (.iload_n 2, 1) := by decide +kernel
theorem dM_set_21 : decode cM_set 21 = .ok (.iconst 2, 1) := by decide +kernel
theorem dM_set_22 : decode cM_set 22 = .ok (.if_icmp .le 5, 3) := by decide +kernel
theorem dM_set_25 : decode cM_set 25 = .ok (.iconst 0, 1) := by decide +kernel
theorem dM_set_26 : decode cM_set 26 = .ok (.ireturn, 1) := by decide +kernel
theorem dM_set_27 : decode cM_set 27 = .ok (.aload_n 0, 1) := by decide +kernel
theorem dM_set_28 : decode cM_set 28 = .ok (.getfield 13, 3) := by decide +kernel
theorem dM_set_31 : decode cM_set 31 = .ok (.iload_n 1, 1) := by decide +kernel
theorem dM_set_32 : decode cM_set 32 = .ok (.iload_n 1, 1) := by decide +kernel
theorem dM_set_33 : decode cM_set 33 = .ok (.bipush 18, 2) := by decide +kernel
theorem dM_set_35 : decode cM_set 35 = .ok (.if_icmp .ge 11, 3) := by decide +kernel
theorem dM_set_38 : decode cM_set 38 = .ok (.iload_n 2, 1) := by decide +kernel
theorem dM_set_39 : decode cM_set 39 = .ok (.sipush 255, 3) := by decide +kernel
theorem dM_set_42 : decode cM_set 42 = .ok (.iand, 1) := by decide +kernel
theorem dM_set_43 : decode cM_set 43 = .ok (.goto 29, 3) := by decide +kernel
theorem dM_set_46 : decode cM_set 46 = .ok (.iload_n 1, 1) := by decide +kernel
theorem dM_set_47 : decode cM_set 47 = .ok (.bipush 22, 2) := by decide +kernel
theorem dM_set_49 : decode cM_set 49 = .ok (.if_icmp .ge 10, 3) := by decide +kernel
theorem dM_set_52 : decode cM_set 52 = .ok (.iload_n 2, 1) := by decide +kernel
theorem dM_set_53 : decode cM_set 53 = .ok (.ldc 44, 2) := by decide +kernel
theorem dM_set_55 : decode cM_set 55 = .ok (.iand, 1) := by decide +kernel
theorem dM_set_56 : decode cM_set 56 = .ok (.goto 16, 3) := by decide +kernel
theorem dM_set_59 : decode cM_set 59 = .ok (.iload_n 1, 1) := by decide +kernel
theorem dM_set_60 : decode cM_set 60 = .ok (.bipush 24, 2) := by decide +kernel
theorem dM_set_62 : decode cM_set 62 = .ok (.if_icmp .ge 9, 3) := by decide +kernel
theorem dM_set_65 : decode cM_set 65 = .ok (.iload_n 2, 1) := by decide +kernel
theorem dM_set_66 : decode cM_set 66 = .ok (.iconst 1, 1) := by decide +kernel
theorem dM_set_67 : decode cM_set 67 = .ok (.iand, 1) := by decide +kernel
theorem dM_set_68 : decode cM_set 68 = .ok (.goto 4, 3) := by decide +kernel
theorem dM_set_71 : decode cM_set 71 = .ok (.iload_n 2, 1) := by decide +kernel
theorem dM_set_72 : decode cM_set 72 = .ok (.iastore, 1) := by decide +kernel
theorem dM_set_73 : decode cM_set 73 = .ok (.iconst 1, 1) := by decide +kernel
theorem dM_set_74 : decode cM_set 74 = .ok (.ireturn, 1) := by decide +kernel
theorem dM_register_0 : decode cM_register 0 = .ok (.iload_n 1, 1) := by decide +kernel
theorem dM_register_1 : decode cM_register 1 = .ok (.ifCond .lt 9, 3) := by decide +kernel
theorem dM_register_4 : decode cM_register 4 = .ok (.iload_n 1, 1) := by decide +kernel
theorem dM_register_5 : decode cM_register 5 = .ok (.bipush 25, 2) := by decide +kernel
theorem dM_register_7 : decode cM_register 7 = .ok (.if_icmp .le 7, 3) := by decide +kernel
theorem dM_register_10 : decode cM_register 10 = .ok (.iconst (-1), 1) := by decide +kernel
theorem dM_register_11 : decode cM_register 11 = .ok (.goto 9, 3) := by decide +kernel
theorem dM_register_14 : decode cM_register 14 = .ok (.aload_n 0, 1) := by decide +kernel
theorem dM_register_15 : decode cM_register 15 = .ok (.getfield 13, 3) := by decide +kernel
theorem dM_register_18 : decode cM_register 18 = .ok (.iload_n 1, 1) := by decide +kernel
theorem dM_register_19 : decode cM_register 19 = .ok (.iaload, 1) := by decide +kernel
theorem dM_register_20 : decode cM_register 20 = .ok (.ireturn, 1) := by decide +kernel
theorem dM_key_0 : decode cM_key 0 = .ok (.iload_n 1, 1) := by decide +kernel
theorem dM_key_1 : decode cM_key 1 = .ok (.ifCond .lt 18, 3) := by decide +kernel
theorem dM_key_4 : decode cM_key 4 = .ok (.iload_n 1, 1) := by decide +kernel
theorem dM_key_5 : decode cM_key 5 = .ok (.bipush 7, 2) := by decide +kernel
theorem dM_key_7 : decode cM_key 7 = .ok (.if_icmp .gt 12, 3) := by decide +kernel
theorem dM_key_10 : decode cM_key 10 = .ok (.iload_n 2, 1) := by decide +kernel
theorem dM_key_11 : decode cM_key 11 = .ok (.ifCond .lt 8, 3) := by decide +kernel
theorem dM_key_14 : decode cM_key 14 = .ok (.iload_n 2, 1) := by decide +kernel
theorem dM_key_15 : decode cM_key 15 = .ok (.iconst 4, 1) := by decide +kernel
theorem dM_key_16 : decode cM_key 16 = .ok (.if_icmp .le 5, 3) := by decide +kernel
theorem dM_key_19 : decode cM_key 19 = .ok (.iconst 0, 1) := by decide +kernel
theorem dM_key_20 : decode cM_key 20 = .ok (.ireturn, 1) := by decide +kernel
theorem dM_key_21 : decode cM_key 21 = .ok (.aload_n 0, 1) := by decide +kernel
theorem dM_key_22 : decode cM_key 22 = .ok (.getfield 16, 3) := by decide +kernel
theorem dM_key_25 : decode cM_key 25 = .ok (.iconst 5, 1) := by decide +kernel
theorem dM_key_26 : decode cM_key 26 = .ok (.iload_n 1, 1) := by decide +kernel
theorem dM_key_27 : decode cM_key 27 = .ok (.imul, 1) := by decide +kernel
theorem dM_key_28 : decode cM_key 28 = .ok (.iload_n 2, 1) := by decide +kernel
theorem dM_key_29 : decode cM_key 29 = .ok (.iadd, 1) := by decide +kernel
theorem dM_key_30 : decode cM_key 30 = .ok (.iload_n 3, 1) := by decide +kernel
theorem dM_key_31 : decode cM_key 31 = .ok (.bastore, 1) := by decide +kernel
theorem dM_key_32 : decode cM_key 32 = .ok (.iconst 1, 1) := by decide +kernel
theorem dM_key_33 : decode cM_key 33 = .ok (.ireturn, 1) := by decide +kernel
theorem dM_pulse_0 : decode cM_pulse 0 = .ok (.aload_n 0, 1) := by decide +kernel
theorem dM_pulse_1 : decode cM_pulse 1 = .ok (.invokevirtual 134, 3) := by decide +kernel
theorem dM_pulse_4 : decode cM_pulse 4 = .ok (.iload_n 1, 1) := by decide +kernel
theorem dM_pulse_5 : decode cM_pulse 5 = .ok (.iconst 1, 1) := by decide +kernel
theorem dM_pulse_6 : decode cM_pulse 6 = .ok (.if_icmp .lt 26, 3) := by decide +kernel
theorem dM_pulse_9 : decode cM_pulse 9 = .ok (.iload_n 1, 1) := by decide +kernel
theorem dM_pulse_10 : decode cM_pulse 10 = .ok (.sipush 10000, 3) := by decide +kernel
theorem dM_pulse_13 : decode cM_pulse 13 = .ok (.if_icmp .gt 19, 3) := by decide +kernel
theorem dM_pulse_16 : decode cM_pulse 16 = .ok (.aload_n 0, 1) := by decide +kernel
theorem dM_pulse_17 : decode cM_pulse 17 = .ok (.getfield 123, 3) := by decide +kernel
theorem dM_pulse_20 : decode cM_pulse 20 = .ok (.bipush 40, 2) := by decide +kernel
theorem dM_pulse_22 : decode cM_pulse 22 = .ok (.if_icmp .eq 10, 3) := by decide +kernel
theorem dM_pulse_25 : decode cM_pulse 25 = .ok (.aload_n 0, 1) := by decide +kernel
theorem dM_pulse_26 : decode cM_pulse 26 = .ok (.getfield 126, 3) := by decide +kernel
theorem dM_pulse_29 : decode cM_pulse 29 = .ok (.ifCond .eq 5, 3) := by decide +kernel
theorem dM_pulse_32 : decode cM_pulse 32 = .ok (.iconst 0, 1) := by decide +kernel
theorem dM_pulse_33 : decode cM_pulse 33 = .ok (.ireturn, 1) := by decide +kernel
theorem dM_pulse_34 : decode cM_pulse 34 = .ok (.aload_n 0, 1) := by decide +kernel
theorem dM_pulse_35 : decode cM_pulse 35 = .ok (.getfield 23, 3) := by decide +kernel
theorem dM_pulse_38 : decode cM_pulse 38 = .ok (.aload_n 0, 1) := by decide +kernel
theorem dM_pulse_39 : decode cM_pulse 39 = .ok (.getfield 123, 3) := by decide +kernel
theorem dM_pulse_42 : decode cM_pulse 42 = .ok (.iload_n 1, 1) := by decide +kernel
theorem dM_pulse_43 : decode cM_pulse 43 = .ok (.iastore, 1) := by decide +kernel
theorem dM_pulse_44 : decode cM_pulse 44 = .ok (.aload_n 0, 1) := by decide +kernel
theorem dM_pulse_45 : decode cM_pulse 45 = .ok (.dup, 1) := by decide +kernel
theorem dM_pulse_46 : decode cM_pulse 46 = .ok (.getfield 123, 3) := by decide +kernel
theorem dM_pulse_49 : decode cM_pulse 49 = .ok (.iconst 1, 1) := by decide +kernel
theorem dM_pulse_50 : decode cM_pulse 50 = .ok (.iadd, 1) := by decide +kernel
theorem dM_pulse_51 : decode cM_pulse 51 = .ok (.putfield 123, 3) := by decide +kernel
theorem dM_pulse_54 : decode cM_pulse 54 = .ok (.iconst 1, 1) := by decide +kernel
theorem dM_pulse_55 : decode cM_pulse 55 = .ok (.ireturn, 1) := by decide +kernel
theorem dM_tape_0 : decode cM_tape 0 = .ok (.aload_n 0, 1) := by decide +kernel
theorem dM_tape_1 : decode cM_tape 1 = .ok (.invokevirtual 134, 3) := by decide +kernel
theorem dM_tape_4 : decode cM_tape 4 = .ok (.iload_n 1, 1) := by decide +kernel
theorem dM_tape_5 : decode cM_tape 5 = .ok (.ifCond .lt 20, 3) := by decide +kernel
theorem dM_tape_8 : decode cM_tape 8 = .ok (.iload_n 1, 1) := by decide +kernel
theorem dM_tape_9 : decode cM_tape 9 = .ok (.iconst 2, 1) := by decide +kernel
theorem dM_tape_10 : decode cM_tape 10 = .ok (.if_icmp .gt 15, 3) := by decide +kernel
theorem dM_tape_13 : decode cM_tape 13 = .ok (.iload_n 1, 1) := by decide +kernel
theorem dM_tape_14 : decode cM_tape 14 = .ok (.iconst 1, 1) := by decide +kernel
theorem dM_tape_15 : decode cM_tape 15 = .ok (.if_icmp .ne 12, 3) := by decide +kernel
theorem dM_tape_18 : decode cM_tape 18 = .ok (.aload_n 0, 1) := by decide +kernel
theorem dM_tape_19 : decode cM_tape 19 = .ok (.getfield 123, 3) := by decide +kernel
theorem dM_tape_22 : decode cM_tape 22 = .ok (.ifCond .ne 5, 3) := by decide +kernel
theorem dM_tape_25 : decode cM_tape 25 = .ok (.iconst 0, 1) := by decide +kernel
theorem dM_tape_26 : decode cM_tape 26 = .ok (.ireturn, 1) := by decide +kernel
theorem dM_tape_27 : decode cM_tape 27 = .ok (.aload_n 0, 1) := by decide +kernel
theorem dM_tape_28 : decode cM_tape 28 = .ok (.iload_n 1, 1) := by decide +kernel
theorem dM_tape_29 : decode cM_tape 29 = .ok (.iconst 1, 1) := by decide +kernel
theorem dM_tape_30 : decode cM_tape 30 = .ok (.if_icmp .ne 7, 3) := by decide +kernel
theorem dM_tape_33 : decode cM_tape 33 = .ok (.iconst 1, 1) := by decide +kernel
theorem dM_tape_34 : decode cM_tape 34 = .ok (.goto 4, 3) := by decide +kernel
theorem dM_tape_37 : decode cM_tape 37 = .ok (.iconst 0, 1) := by decide +kernel
theorem dM_tape_38 : decode cM_tape 38 = .ok (.putfield 126, 3) := by decide +kernel
theorem dM_tape_41 : decode cM_tape 41 = .ok (.aload_n 0, 1) := by decide +kernel
theorem dM_tape_42 : decode cM_tape 42 = .ok (.aload_n 0, 1) := by decide +kernel
theorem dM_tape_43 : decode cM_tape 43 = .ok (.getfield 26, 3) := by decide +kernel
theorem dM_tape_46 : decode cM_tape 46 = .ok (.putfield 120, 3) := by decide +kernel
theorem dM_tape_49 : decode cM_tape 49 = .ok (.aload_n 0, 1) := by decide +kernel
theorem dM_tape_50 : decode cM_tape 50 = .ok (.iload_n 1, 1) := by decide +kernel
theorem dM_tape_51 : decode cM_tape 51 = .ok (.ifCond .le 7, 3) := by decide +kernel
theorem dM_tape_54 : decode cM_tape 54 = .ok (.iconst 0, 1) := by decide +kernel
theorem dM_tape_55 : decode cM_tape 55 = .ok (.goto 7, 3) := by decide +kernel
theorem dM_tape_58 : decode cM_tape 58 = .ok (.aload_n 0, 1) := by decide +kernel
theorem dM_tape_59 : decode cM_tape 59 = .ok (.getfield 131, 3) := by decide +kernel
theorem dM_tape_62 : decode cM_tape 62 = .ok (.putfield 131, 3) := by decide +kernel
theorem dM_tape_65 : decode cM_tape 65 = .ok (.aload_n 0, 1) := by decide +kernel
theorem dM_tape_66 : decode cM_tape 66 = .ok (.iload_n 1, 1) := by decide +kernel
theorem dM_tape_67 : decode cM_tape 67 = .ok (.iconst 2, 1) := by decide +kernel
theorem dM_tape_68 : decode cM_tape 68 = .ok (.if_icmp .ne 7, 3) := by decide +kernel
theorem dM_tape_71 : decode cM_tape 71 = .ok (.iconst 0, 1) := by decide +kernel
theorem dM_tape_72 : decode cM_tape 72 = .ok (.goto 7, 3) := by decide +kernel
theorem dM_tape_75 : decode cM_tape 75 = .ok (.aload_n 0, 1) := by decide +kernel
theorem dM_tape_76 : decode cM_tape 76 = .ok (.getfield 123, 3) := by decide +kernel
theorem dM_tape_79 : decode cM_tape 79 = .ok (.putfield 123, 3) := by decide +kernel
theorem dM_tape_82 : decode cM_tape 82 = .ok (.iconst 1, 1) := by decide +kernel
theorem dM_tape_83 : decode cM_tape 83 = .ok (.ireturn, 1) := by decide +kernel
theorem dM_step_0 : decode cM_step 0 = .ok (.iload_n 1, 1) := by decide +kernel
theorem dM_step_1 : decode cM_step 1 = .ok (.iconst 1, 1) := by decide +kernel
theorem dM_step_2 : decode cM_step 2 = .ok (.if_icmp .lt 9, 3) := by decide +kernel
theorem dM_step_5 : decode cM_step 5 = .ok (.iload_n 1, 1) := by decide +kernel
theorem dM_step_6 : decode cM_step 6 = .ok (.bipush 100, 2) := by decide +kernel
theorem dM_step_8 : decode cM_step 8 = .ok (.if_icmp .le 5, 3) := by decide +kernel
theorem dM_step_11 : decode cM_step 11 = .ok (.iconst (-1), 1) := by decide +kernel
theorem dM_step_12 : decode cM_step 12 = .ok (.ireturn, 1) := by decide +kernel
theorem dM_step_13 : decode cM_step 13 = .ok (.aload_n 0, 1) := by decide +kernel
theorem dM_step_14 : decode cM_step 14 = .ok (.getfield 26, 3) := by decide +kernel
theorem dM_step_17 : decode cM_step 17 = .ok (.istore_n 2, 1) := by decide +kernel
theorem dM_step_18 : decode cM_step 18 = .ok (.iconst 0, 1) := by decide +kernel
theorem dM_step_19 : decode cM_step 19 = .ok (.istore_n 3, 1) := by decide +kernel
theorem dM_step_20 : decode cM_step 20 = .ok (.iload_n 3, 1) := by decide +kernel
theorem dM_step_21 : decode cM_step 21 = .ok (.iload_n 1, 1) := by decide +kernel
theorem dM_step_22 : decode cM_step 22 = .ok (.if_icmp .ge 13, 3) := by decide +kernel
theorem dM_step_25 : decode cM_step 25 = .ok (.aload_n 0, 1) := by decide +kernel
theorem dM_step_26 : decode cM_step 26 = .ok (.invokevirtual 248, 3) := by decide +kernel
theorem dM_step_29 : decode cM_step 29 = .ok (.iinc 3 1, 3) := by decide +kernel
theorem dM_step_32 : decode cM_step 32 = .ok (.goto (-12), 3) := by decide +kernel
theorem dM_step_35 : decode cM_step 35 = .ok (.aload_n 0, 1) := by decide +kernel
theorem dM_step_36 : decode cM_step 36 = .ok (.getfield 26, 3) := by decide +kernel
theorem dM_step_39 : decode cM_step 39 = .ok (.iload_n 2, 1) := by decide +kernel
theorem dM_step_40 : decode cM_step 40 = .ok (.isub, 1) := by decide +kernel
theorem dM_step_41 : decode cM_step 41 = .ok (.ireturn, 1) := by decide +kernel
theorem dM_frame_0 : decode cM_frame 0 = .ok (.aload_n 0, 1) := by decide +kernel
theorem dM_frame_1 : decode cM_frame 1 = .ok (.getfield 26, 3) := by decide +kernel
theorem dM_frame_4 : decode cM_frame 4 = .ok (.sipush 4096, 3) := by decide +kernel
theorem dM_frame_7 : decode cM_frame 7 = .ok (.idiv, 1) := by decide +kernel
theorem dM_frame_8 : decode cM_frame 8 = .ok (.istore_n 1, 1) := by decide +kernel
theorem dM_frame_9 : decode cM_frame 9 = .ok (.iconst 0, 1) := by decide +kernel
theorem dM_frame_10 : decode cM_frame 10 = .ok (.istore_n 2, 1) := by decide +kernel
theorem dM_frame_11 : decode cM_frame 11 = .ok (.iload_n 2, 1) := by decide +kernel
theorem dM_frame_12 : decode cM_frame 12 = .ok (.sipush 1100, 3) := by decide +kernel
theorem dM_frame_15 : decode cM_frame 15 = .ok (.if_icmp .ge 25, 3) := by decide +kernel
theorem dM_frame_18 : decode cM_frame 18 = .ok (.aload_n 0, 1) := by decide +kernel
theorem dM_frame_19 : decode cM_frame 19 = .ok (.getfield 26, 3) := by decide +kernel
theorem dM_frame_22 : decode cM_frame 22 = .ok (.sipush 4096, 3) := by decide +kernel
theorem dM_frame_25 : decode cM_frame 25 = .ok (.idiv, 1) := by decide +kernel
theorem dM_frame_26 : decode cM_frame 26 = .ok (.iload_n 1, 1) := by decide +kernel
theorem dM_frame_27 : decode cM_frame 27 = .ok (.if_icmp .ne 13, 3) := by decide +kernel
theorem dM_frame_30 : decode cM_frame 30 = .ok (.aload_n 0, 1) := by decide +kernel
theorem dM_frame_31 : decode cM_frame 31 = .ok (.invokevirtual 248, 3) := by decide +kernel
theorem dM_frame_34 : decode cM_frame 34 = .ok (.iinc 2 1, 3) := by decide +kernel
theorem dM_frame_37 : decode cM_frame 37 = .ok (.goto (-26), 3) := by decide +kernel
theorem dM_frame_40 : decode cM_frame 40 = .ok (.iload_n 2, 1) := by decide +kernel
theorem dM_frame_41 : decode cM_frame 41 = .ok (.ireturn, 1) := by decide +kernel
theorem dM_look_0 : decode cM_look 0 = .ok (.aload_n 0, 1) := by decide +kernel
theorem dM_look_1 : decode cM_look 1 = .ok (.invokevirtual 134, 3) := by decide +kernel
theorem dM_look_4 : decode cM_look 4 = .ok (.iload_n 1, 1) := by decide +kernel
theorem dM_look_5 : decode cM_look 5 = .ok (.iconst 4, 1) := by decide +kernel
theorem dM_look_6 : decode cM_look 6 = .ok (.if_icmp .ge 60, 3) := by decide +kernel
theorem dM_look_9 : decode cM_look 9 = .ok (.iload_n 1, 1) := by decide +kernel
theorem dM_look_10 : decode cM_look 10 = .ok (.ifCond .ne 14, 3) := by decide +kernel
theorem dM_look_13 : decode cM_look 13 = .ok (.aload_n 0, 1) := by decide +kernel
theorem dM_look_14 : decode cM_look 14 = .ok (.getfield 26, 3) := by decide +kernel
theorem dM_look_17 : decode cM_look 17 = .ok (.sipush 4096, 3) := by decide +kernel
theorem dM_look_20 : decode cM_look 20 = .ok (.idiv, 1) := by decide +kernel
theorem dM_look_21 : decode cM_look 21 = .ok (.goto 44, 3) := by decide +kernel
theorem dM_look_24 : decode cM_look 24 = .ok (.iload_n 1, 1) := by decide +kernel
theorem dM_look_25 : decode cM_look 25 = .ok (.iconst 1, 1) := by decide +kernel
theorem dM_look_26 : decode cM_look 26 = .ok (.if_icmp .ne 14, 3) := by decide +kernel
theorem dM_look_29 : decode cM_look 29 = .ok (.aload_n 0, 1) := by decide +kernel
theorem dM_look_30 : decode cM_look 30 = .ok (.getfield 26, 3) := by decide +kernel
theorem dM_look_33 : decode cM_look 33 = .ok (.sipush 4096, 3) := by decide +kernel
theorem dM_look_36 : decode cM_look 36 = .ok (.irem, 1) := by decide +kernel
theorem dM_look_37 : decode cM_look 37 = .ok (.goto 28, 3) := by decide +kernel
theorem dM_look_40 : decode cM_look 40 = .ok (.iload_n 1, 1) := by decide +kernel
theorem dM_look_41 : decode cM_look 41 = .ok (.iconst 2, 1) := by decide +kernel
theorem dM_look_42 : decode cM_look 42 = .ok (.if_icmp .ne 10, 3) := by decide +kernel
theorem dM_look_45 : decode cM_look 45 = .ok (.aload_n 0, 1) := by decide +kernel
theorem dM_look_46 : decode cM_look 46 = .ok (.getfield 30, 3) := by decide +kernel
theorem dM_look_49 : decode cM_look 49 = .ok (.goto 16, 3) := by decide +kernel
theorem dM_look_52 : decode cM_look 52 = .ok (.iload_n 1, 1) := by decide +kernel
theorem dM_look_53 : decode cM_look 53 = .ok (.iconst 3, 1) := by decide +kernel
theorem dM_look_54 : decode cM_look 54 = .ok (.if_icmp .ne 10, 3) := by decide +kernel
theorem dM_look_57 : decode cM_look 57 = .ok (.aload_n 0, 1) := by decide +kernel
theorem dM_look_58 : decode cM_look 58 = .ok (.getfield 137, 3) := by decide +kernel
theorem dM_look_61 : decode cM_look 61 = .ok (.goto 4, 3) := by decide +kernel
theorem dM_look_64 : decode cM_look 64 = .ok (.iconst (-1), 1) := by decide +kernel
theorem dM_look_65 : decode cM_look 65 = .ok (.ireturn, 1) := by decide +kernel
theorem dM_look_66 : decode cM_look 66 = .ok (.iload_n 1, 1) := by decide +kernel
theorem dM_look_67 : decode cM_look 67 = .ok (.iconst 4, 1) := by decide +kernel
theorem dM_look_68 : decode cM_look 68 = .ok (.if_icmp .ne 12, 3) := by decide +kernel
theorem dM_look_71 : decode cM_look 71 = .ok (.aload_n 0, 1) := by decide +kernel
theorem dM_look_72 : decode cM_look 72 = .ok (.getfield 131, 3) := by decide +kernel
theorem dM_look_75 : decode cM_look 75 = .ok (.iconst 2, 1) := by decide +kernel
theorem dM_look_76 : decode cM_look 76 = .ok (.irem, 1) := by decide +kernel
theorem dM_look_77 : decode cM_look 77 = .ok (.goto 37, 3) := by decide +kernel
theorem dM_look_80 : decode cM_look 80 = .ok (.iload_n 1, 1) := by decide +kernel
theorem dM_look_81 : decode cM_look 81 = .ok (.iconst 5, 1) := by decide +kernel
theorem dM_look_82 : decode cM_look 82 = .ok (.if_icmp .ne 18, 3) := by decide +kernel
theorem dM_look_85 : decode cM_look 85 = .ok (.aload_n 0, 1) := by decide +kernel
theorem dM_look_86 : decode cM_look 86 = .ok (.getfield 126, 3) := by decide +kernel
theorem dM_look_89 : decode cM_look 89 = .ok (.ifCond .eq 7, 3) := by decide +kernel
theorem dM_look_92 : decode cM_look 92 = .ok (.iconst 1, 1) := by decide +kernel
theorem dM_look_93 : decode cM_look 93 = .ok (.goto 21, 3) := by decide +kernel
theorem dM_look_96 : decode cM_look 96 = .ok (.iconst 0, 1) := by decide +kernel
theorem dM_look_97 : decode cM_look 97 = .ok (.goto 17, 3) := by decide +kernel
theorem dM_look_100 : decode cM_look 100 = .ok (.iload_n 1, 1) := by decide +kernel
theorem dM_look_101 : decode cM_look 101 = .ok (.bipush 6, 2) := by decide +kernel
theorem dM_look_103 : decode cM_look 103 = .ok (.if_icmp .ne 10, 3) := by decide +kernel
theorem dM_look_106 : decode cM_look 106 = .ok (.aload_n 0, 1) := by decide +kernel
theorem dM_look_107 : decode cM_look 107 = .ok (.getfield 131, 3) := by decide +kernel
theorem dM_look_110 : decode cM_look 110 = .ok (.goto 4, 3) := by decide +kernel
theorem dM_look_113 : decode cM_look 113 = .ok (.iconst (-1), 1) := by decide +kernel
theorem dM_look_114 : decode cM_look 114 = .ok (.ireturn, 1) := by decide +kernel
theorem dM_stripe_0 : decode cM_stripe 0 = .ok (.iload_n 1, 1) := by decide +kernel
theorem dM_stripe_1 : decode cM_stripe 1 = .ok (.ifCond .lt 9, 3) := by decide +kernel
theorem dM_stripe_4 : decode cM_stripe 4 = .ok (.iload_n 1, 1) := by decide +kernel
theorem dM_stripe_5 : decode cM_stripe 5 = .ok (.bipush 63, 2) := by decide +kernel
theorem dM_stripe_7 : decode cM_stripe 7 = .ok (.if_icmp .le 7, 3) := by decide +kernel
theorem dM_stripe_10 : decode cM_stripe 10 = .ok (.iconst (-1), 1) := by decide +kernel
theorem dM_stripe_11 : decode cM_stripe 11 = .ok (.goto 9, 3) := by decide +kernel
theorem dM_stripe_14 : decode cM_stripe 14 = .ok (.aload_n 0, 1) := by decide +kernel
theorem dM_stripe_15 : decode cM_stripe 15 = .ok (.getfield 20, 3) := by decide +kernel
theorem dM_stripe_18 : decode cM_stripe 18 = .ok (.iload_n 1, 1) := by decide +kernel
theorem dM_stripe_19 : decode cM_stripe 19 = .ok (.iaload, 1) := by decide +kernel
theorem dM_stripe_20 : decode cM_stripe 20 = .ok (.ireturn, 1) := by decide +kernel
theorem dA_by_0 : decode cA_by 0 = .ok (.iload_n 0, 1) := by decide +kernel
theorem dA_by_1 : decode cA_by 1 = .ok (.sipush 168, 3) := by decide +kernel
theorem dA_by_4 : decode cA_by 4 = .ok (.iand, 1) := by decide +kernel
theorem dA_by_5 : decode cA_by 5 = .ok (.iload_n 0, 1) := by decide +kernel
theorem dA_by_6 : decode cA_by 6 = .ok (.ifCond .ne 8, 3) := by decide +kernel
theorem dA_by_9 : decode cA_by 9 = .ok (.bipush 64, 2) := by decide +kernel
theorem dA_by_11 : decode cA_by 11 = .ok (.goto 4, 3) := by decide +kernel
theorem dA_by_14 : decode cA_by 14 = .ok (.iconst 0, 1) := by decide +kernel
theorem dA_by_15 : decode cA_by 15 = .ok (.ior, 1) := by decide +kernel
theorem dA_by_16 : decode cA_by 16 = .ok (.ireturn, 1) := by decide +kernel
theorem dA_byWithParity_0 : decode cA_byWithParity 0 = .ok (.iload_n 0, 1) := by decide +kernel
theorem dA_byWithParity_1 : decode cA_byWithParity 1 = .ok (.invokestatic 9, 3) := by decide +kernel
theorem dA_byWithParity_4 : decode cA_byWithParity 4 = .ok (.iload_n 0, 1) := by decide +kernel
theorem dA_byWithParity_5 : decode cA_byWithParity 5 = .ok (.invokestatic 13, 3) := by decide +kernel
theorem dA_byWithParity_8 : decode cA_byWithParity 8 = .ok (.iconst 1, 1) := by decide +kernel
theorem dA_byWithParity_9 : decode cA_byWithParity 9 = .ok (.iand, 1) := by decide +kernel
theorem dA_byWithParity_10 : decode cA_byWithParity 10 = .ok (.ifCond .ne 7, 3) := by decide +kernel
theorem dA_byWithParity_13 : decode cA_byWithParity 13 = .ok (.iconst 4, 1) := by decide +kernel
theorem dA_byWithParity_14 : decode cA_byWithParity 14 = .ok (.goto 4, 3) := by decide +kernel
theorem dA_byWithParity_17 : decode cA_byWithParity 17 = .ok (.iconst 0, 1) := by decide +kernel
theorem dA_byWithParity_18 : decode cA_byWithParity 18 = .ok (.ior, 1) := by decide +kernel
theorem dA_byWithParity_19 : decode cA_byWithParity 19 = .ok (.ireturn, 1) := by decide +kernel
theorem dA_plus_0 : decode cA_plus 0 = .ok (.iload_n 0, 1) := by decide +kernel
theorem dA_plus_1 : decode cA_plus 1 = .ok (.iload_n 1, 1) := by decide +kernel
theorem dA_plus_2 : decode cA_plus 2 = .ok (.iadd, 1) := by decide +kernel
theorem dA_plus_3 : decode cA_plus 3 = .ok (.iload_n 2, 1) := by decide +kernel
theorem dA_plus_4 : decode cA_plus 4 = .ok (.iadd, 1) := by decide +kernel
theorem dA_plus_5 : decode cA_plus 5 = .ok (.istore_n 3, 1) := by decide +kernel
theorem dA_plus_6 : decode cA_plus 6 = .ok (.iload_n 0, 1) := by decide +kernel
theorem dA_plus_7 : decode cA_plus 7 = .ok (.iload_n 3, 1) := by decide +kernel
theorem dA_plus_8 : decode cA_plus 8 = .ok (.ixor, 1) := by decide +kernel
theorem dA_plus_9 : decode cA_plus 9 = .ok (.iload_n 1, 1) := by decide +kernel
theorem dA_plus_10 : decode cA_plus 10 = .ok (.iload_n 3, 1) := by decide +kernel
theorem dA_plus_11 : decode cA_plus 11 = .ok (.ixor, 1) := by decide +kernel
theorem dA_plus_12 : decode cA_plus 12 = .ok (.iand, 1) := by decide +kernel
theorem dA_plus_13 : decode cA_plus 13 = .ok (.sipush 128, 3) := by decide +kernel
theorem dA_plus_16 : decode cA_plus 16 = .ok (.iand, 1) := by decide +kernel
theorem dA_plus_17 : decode cA_plus 17 = .ok (.istore 4, 2) := by decide +kernel
theorem dA_plus_19 : decode cA_plus 19 = .ok (.iload_n 3, 1) := by decide +kernel
theorem dA_plus_20 : decode cA_plus 20 = .ok (.sipush 255, 3) := by decide +kernel
theorem dA_plus_23 : decode cA_plus 23 = .ok (.iand, 1) := by decide +kernel
theorem dA_plus_24 : decode cA_plus 24 = .ok (.invokestatic 9, 3) := by decide +kernel
theorem dA_plus_27 : decode cA_plus 27 = .ok (.iload_n 0, 1) := by decide +kernel
theorem dA_plus_28 : decode cA_plus 28 = .ok (.iload_n 1, 1) := by decide +kernel
theorem dA_plus_29 : decode cA_plus 29 = .ok (.ixor, 1) := by decide +kernel
theorem dA_plus_30 : decode cA_plus 30 = .ok (.iload_n 3, 1) := by decide +kernel
theorem dA_plus_31 : decode cA_plus 31 = .ok (.ixor, 1) := by decide +kernel
theorem dA_plus_32 : decode cA_plus 32 = .ok (.bipush 16, 2) := by decide +kernel
theorem dA_plus_34 : decode cA_plus 34 = .ok (.iand, 1) := by decide +kernel
theorem dA_plus_35 : decode cA_plus 35 = .ok (.ior, 1) := by decide +kernel
theorem dA_plus_36 : decode cA_plus 36 = .ok (.iload 4, 2) := by decide +kernel
theorem dA_plus_38 : decode cA_plus 38 = .ok (.iconst 5, 1) := by decide +kernel
theorem dA_plus_39 : decode cA_plus 39 = .ok (.ishr, 1) := by decide +kernel
theorem dA_plus_40 : decode cA_plus 40 = .ok (.ior, 1) := by decide +kernel
theorem dA_plus_41 : decode cA_plus 41 = .ok (.iload_n 3, 1) := by decide +kernel
theorem dA_plus_42 : decode cA_plus 42 = .ok (.bipush 8, 2) := by decide +kernel
theorem dA_plus_44 : decode cA_plus 44 = .ok (.ishr, 1) := by decide +kernel
theorem dA_plus_45 : decode cA_plus 45 = .ok (.iconst 1, 1) := by decide +kernel
theorem dA_plus_46 : decode cA_plus 46 = .ok (.iand, 1) := by decide +kernel
theorem dA_plus_47 : decode cA_plus 47 = .ok (.ior, 1) := by decide +kernel
theorem dA_plus_48 : decode cA_plus 48 = .ok (.istore 5, 2) := by decide +kernel
theorem dA_plus_50 : decode cA_plus 50 = .ok (.iload_n 3, 1) := by decide +kernel
theorem dA_plus_51 : decode cA_plus 51 = .ok (.sipush 255, 3) := by decide +kernel
theorem dA_plus_54 : decode cA_plus 54 = .ok (.iand, 1) := by decide +kernel
theorem dA_plus_55 : decode cA_plus 55 = .ok (.bipush 8, 2) := by decide +kernel
theorem dA_plus_57 : decode cA_plus 57 = .ok (.ishl, 1) := by decide +kernel
theorem dA_plus_58 : decode cA_plus 58 = .ok (.iload 5, 2) := by decide +kernel
theorem dA_plus_60 : decode cA_plus 60 = .ok (.ior, 1) := by decide +kernel
theorem dA_plus_61 : decode cA_plus 61 = .ok (.ireturn, 1) := by decide +kernel
theorem dA_minus_0 : decode cA_minus 0 = .ok (.iload_n 0, 1) := by decide +kernel
theorem dA_minus_1 : decode cA_minus 1 = .ok (.iload_n 1, 1) := by decide +kernel
theorem dA_minus_2 : decode cA_minus 2 = .ok (.isub, 1) := by decide +kernel
theorem dA_minus_3 : decode cA_minus 3 = .ok (.iload_n 2, 1) := by decide +kernel
theorem dA_minus_4 : decode cA_minus 4 = .ok (.isub, 1) := by decide +kernel
theorem dA_minus_5 : decode cA_minus 5 = .ok (.istore_n 3, 1) := by decide +kernel
theorem dA_minus_6 : decode cA_minus 6 = .ok (.iload_n 0, 1) := by decide +kernel
theorem dA_minus_7 : decode cA_minus 7 = .ok (.iload_n 1, 1) := by decide +kernel
theorem dA_minus_8 : decode cA_minus 8 = .ok (.ixor, 1) := by decide +kernel
theorem dA_minus_9 : decode cA_minus 9 = .ok (.iload_n 0, 1) := by decide +kernel
theorem dA_minus_10 : decode cA_minus 10 = .ok (.iload_n 3, 1) := by decide +kernel
theorem dA_minus_11 : decode cA_minus 11 = .ok (.ixor, 1) := by decide +kernel
theorem dA_minus_12 : decode cA_minus 12 = .ok (.iand, 1) := by decide +kernel
theorem dA_minus_13 : decode cA_minus 13 = .ok (.sipush 128, 3) := by decide +kernel
theorem dA_minus_16 : decode cA_minus 16 = .ok (.iand, 1) := by decide +kernel
theorem dA_minus_17 : decode cA_minus 17 = .ok (.istore 4, 2) := by decide +kernel
theorem dA_minus_19 : decode cA_minus 19 = .ok (.iload_n 3, 1) := by decide +kernel
theorem dA_minus_20 : decode cA_minus 20 = .ok (.sipush 255, 3) := by decide +kernel
theorem dA_minus_23 : decode cA_minus 23 = .ok (.iand, 1) := by decide +kernel
theorem dA_minus_24 : decode cA_minus 24 = .ok (.invokestatic 9, 3) := by decide +kernel
theorem dA_minus_27 : decode cA_minus 27 = .ok (.iload_n 0, 1) := by decide +kernel
theorem dA_minus_28 : decode cA_minus 28 = .ok (.iload_n 1, 1) := by decide +kernel
theorem dA_minus_29 : decode cA_minus 29 = .ok (.ixor, 1) := by decide +kernel
theorem dA_minus_30 : decode cA_minus 30 = .ok (.iload_n 3, 1) := by decide +kernel
theorem dA_minus_31 : decode cA_minus 31 = .ok (.ixor, 1) := by decide +kernel
theorem dA_minus_32 : decode cA_minus 32 = .ok (.bipush 16, 2) := by decide +kernel
theorem dA_minus_34 : decode cA_minus 34 = .ok (.iand, 1) := by decide +kernel
theorem dA_minus_35 : decode cA_minus 35 = .ok (.ior, 1) := by decide +kernel
theorem dA_minus_36 : decode cA_minus 36 = .ok (.iload 4, 2) := by decide +kernel
theorem dA_minus_38 : decode cA_minus 38 = .ok (.iconst 5, 1) := by decide +kernel
theorem dA_minus_39 : decode cA_minus 39 = .ok (.ishr, 1) := by decide +kernel
theorem dA_minus_40 : decode cA_minus 40 = .ok (.ior, 1) := by decide +kernel
theorem dA_minus_41 : decode cA_minus 41 = .ok (.iconst 2, 1) := by decide +kernel
theorem dA_minus_42 : decode cA_minus 42 = .ok (.ior, 1) := by decide +kernel
theorem dA_minus_43 : decode cA_minus 43 = .ok (.iload_n 3, 1) := by decide +kernel
theorem dA_minus_44 : decode cA_minus 44 = .ok (.bipush 8, 2) := by decide +kernel
theorem dA_minus_46 : decode cA_minus 46 = .ok (.ishr, 1) := by decide +kernel
theorem dA_minus_47 : decode cA_minus 47 = .ok (.iconst 1, 1) := by decide +kernel
theorem dA_minus_48 : decode cA_minus 48 = .ok (.iand, 1) := by decide +kernel
theorem dA_minus_49 : decode cA_minus 49 = .ok (.ior, 1) := by decide +kernel
theorem dA_minus_50 : decode cA_minus 50 = .ok (.istore 5, 2) := by decide +kernel
theorem dA_minus_52 : decode cA_minus 52 = .ok (.iload_n 3, 1) := by decide +kernel
theorem dA_minus_53 : decode cA_minus 53 = .ok (.sipush 255, 3) := by decide +kernel
theorem dA_minus_56 : decode cA_minus 56 = .ok (.iand, 1) := by decide +kernel
theorem dA_minus_57 : decode cA_minus 57 = .ok (.bipush 8, 2) := by decide +kernel
theorem dA_minus_59 : decode cA_minus 59 = .ok (.ishl, 1) := by decide +kernel
theorem dA_minus_60 : decode cA_minus 60 = .ok (.iload 5, 2) := by decide +kernel
theorem dA_minus_62 : decode cA_minus 62 = .ok (.ior, 1) := by decide +kernel
theorem dA_minus_63 : decode cA_minus 63 = .ok (.ireturn, 1) := by decide +kernel
theorem dA_compared_0 : decode cA_compared 0 = .ok (.iload_n 0, 1) := by decide +kernel
theorem dA_compared_1 : decode cA_compared 1 = .ok (.bipush 8, 2) := by decide +kernel
theorem dA_compared_3 : decode cA_compared 3 = .ok (.ishl, 1) := by decide +kernel
theorem dA_compared_4 : decode cA_compared 4 = .ok (.iload_n 0, 1) := by decide +kernel
theorem dA_compared_5 : decode cA_compared 5 = .ok (.iload_n 1, 1) := by decide +kernel
theorem dA_compared_6 : decode cA_compared 6 = .ok (.iconst 0, 1) := by decide +kernel
theorem dA_compared_7 : decode cA_compared 7 = .ok (.invokestatic 18, 3) := by decide +kernel
theorem dA_compared_10 : decode cA_compared 10 = .ok (.sipush 255, 3) := by decide +kernel
theorem dA_compared_13 : decode cA_compared 13 = .ok (.iand, 1) := by decide +kernel
theorem dA_compared_14 : decode cA_compared 14 = .ok (.bipush (-41), 2) := by decide +kernel
theorem dA_compared_16 : decode cA_compared 16 = .ok (.iand, 1) := by decide +kernel
theorem dA_compared_17 : decode cA_compared 17 = .ok (.ior, 1) := by decide +kernel
theorem dA_compared_18 : decode cA_compared 18 = .ok (.iload_n 1, 1) := by decide +kernel
theorem dA_compared_19 : decode cA_compared 19 = .ok (.bipush 40, 2) := by decide +kernel
theorem dA_compared_21 : decode cA_compared 21 = .ok (.iand, 1) := by decide +kernel
theorem dA_compared_22 : decode cA_compared 22 = .ok (.ior, 1) := by decide +kernel
theorem dA_compared_23 : decode cA_compared 23 = .ok (.ireturn, 1) := by decide +kernel
theorem dA_logic_0 : decode cA_logic 0 = .ok (.iload_n 0, 1) := by decide +kernel
theorem dA_logic_1 : decode cA_logic 1 = .ok (.bipush 8, 2) := by decide +kernel
theorem dA_logic_3 : decode cA_logic 3 = .ok (.ishl, 1) := by decide +kernel
theorem dA_logic_4 : decode cA_logic 4 = .ok (.iload_n 0, 1) := by decide +kernel
theorem dA_logic_5 : decode cA_logic 5 = .ok (.invokestatic 22, 3) := by decide +kernel
theorem dA_logic_8 : decode cA_logic 8 = .ok (.ior, 1) := by decide +kernel
theorem dA_logic_9 : decode cA_logic 9 = .ok (.ireturn, 1) := by decide +kernel
theorem dA_plusWide_0 : decode cA_plusWide 0 = .ok (.iload_n 0, 1) := by decide +kernel
theorem dA_plusWide_1 : decode cA_plusWide 1 = .ok (.iload_n 1, 1) := by decide +kernel
theorem dA_plusWide_2 : decode cA_plusWide 2 = .ok (.iadd, 1) := by decide +kernel
theorem dA_plusWide_3 : decode cA_plusWide 3 = .ok (.iload_n 2, 1) := by decide +kernel
theorem dA_plusWide_4 : decode cA_plusWide 4 = .ok (.iadd, 1) := by decide +kernel
theorem dA_plusWide_5 : decode cA_plusWide 5 = .ok (.istore_n 3, 1) := by decide +kernel
theorem dA_plusWide_6 : decode cA_plusWide 6 = .ok (.iload_n 0, 1) := by decide +kernel
theorem dA_plusWide_7 : decode cA_plusWide 7 = .ok (.iload_n 3, 1) := by decide +kernel
theorem dA_plusWide_8 : decode cA_plusWide 8 = .ok (.ixor, 1) := by decide +kernel
theorem dA_plusWide_9 : decode cA_plusWide 9 = .ok (.iload_n 1, 1) := by decide +kernel
theorem dA_plusWide_10 : decode cA_plusWide 10 = .ok (.iload_n 3, 1) := by decide +kernel
theorem dA_plusWide_11 : decode cA_plusWide 11 = .ok (.ixor, 1) := by decide +kernel
theorem dA_plusWide_12 : decode cA_plusWide 12 = .ok (.iand, 1) := by decide +kernel
theorem dA_plusWide_13 : decode cA_plusWide 13 = .ok (.ldc 25, 2) := by decide +kernel
theorem dA_plusWide_15 : decode cA_plusWide 15 = .ok (.iand, 1) := by decide +kernel
theorem dA_plusWide_16 : decode cA_plusWide 16 = .ok (.istore 4, 2) := by decide +kernel
theorem dA_plusWide_18 : decode cA_plusWide 18 = .ok (.iload_n 3, 1) := by decide +kernel
theorem dA_plusWide_19 : decode cA_plusWide 19 = .ok (.invokestatic 26, 3) := by decide +kernel
theorem dA_plusWide_22 : decode cA_plusWide 22 = .ok (.iload_n 0, 1) := by decide +kernel
theorem dA_plusWide_23 : decode cA_plusWide 23 = .ok (.iload_n 1, 1) := by decide +kernel
theorem dA_plusWide_24 : decode cA_plusWide 24 = .ok (.ixor, 1) := by decide +kernel
theorem dA_plusWide_25 : decode cA_plusWide 25 = .ok (.iload_n 3, 1) := by decide +kernel
theorem dA_plusWide_26 : decode cA_plusWide 26 = .ok (.ixor, 1) := by decide +kernel
theorem dA_plusWide_27 : decode cA_plusWide 27 = .ok (.bipush 8, 2) := by decide +kernel
theorem dA_plusWide_29 : decode cA_plusWide 29 = .ok (.ishr, 1) := by decide +kernel
theorem dA_plusWide_30 : decode cA_plusWide 30 = .ok (.bipush 16, 2) := by decide +kernel
theorem dA_plusWide_32 : decode cA_plusWide 32 = .ok (.iand, 1) := by decide +kernel
theorem dA_plusWide_33 : decode cA_plusWide 33 = .ok (.ior, 1) := by decide +kernel
theorem dA_plusWide_34 : decode cA_plusWide 34 = .ok (.iload 4, 2) := by decide +kernel
theorem dA_plusWide_36 : decode cA_plusWide 36 = .ok (.bipush 13, 2) := by decide +kernel
theorem dA_plusWide_38 : decode cA_plusWide 38 = .ok (.ishr, 1) := by decide +kernel
theorem dA_plusWide_39 : decode cA_plusWide 39 = .ok (.ior, 1) := by decide +kernel
theorem dA_plusWide_40 : decode cA_plusWide 40 = .ok (.iload_n 3, 1) := by decide +kernel
theorem dA_plusWide_41 : decode cA_plusWide 41 = .ok (.bipush 16, 2) := by decide +kernel
theorem dA_plusWide_43 : decode cA_plusWide 43 = .ok (.ishr, 1) := by decide +kernel
theorem dA_plusWide_44 : decode cA_plusWide 44 = .ok (.iconst 1, 1) := by decide +kernel
theorem dA_plusWide_45 : decode cA_plusWide 45 = .ok (.iand, 1) := by decide +kernel
theorem dA_plusWide_46 : decode cA_plusWide 46 = .ok (.ior, 1) := by decide +kernel
theorem dA_plusWide_47 : decode cA_plusWide 47 = .ok (.istore 5, 2) := by decide +kernel
theorem dA_plusWide_49 : decode cA_plusWide 49 = .ok (.iload_n 3, 1) := by decide +kernel
theorem dA_plusWide_50 : decode cA_plusWide 50 = .ok (.ldc 29, 2) := by decide +kernel
theorem dA_plusWide_52 : decode cA_plusWide 52 = .ok (.iand, 1) := by decide +kernel
theorem dA_plusWide_53 : decode cA_plusWide 53 = .ok (.bipush 8, 2) := by decide +kernel
theorem dA_plusWide_55 : decode cA_plusWide 55 = .ok (.ishl, 1) := by decide +kernel
theorem dA_plusWide_56 : decode cA_plusWide 56 = .ok (.iload 5, 2) := by decide +kernel
theorem dA_plusWide_58 : decode cA_plusWide 58 = .ok (.ior, 1) := by decide +kernel
theorem dA_plusWide_59 : decode cA_plusWide 59 = .ok (.ireturn, 1) := by decide +kernel
theorem dA_minusWide_0 : decode cA_minusWide 0 = .ok (.iload_n 0, 1) := by decide +kernel
theorem dA_minusWide_1 : decode cA_minusWide 1 = .ok (.iload_n 1, 1) := by decide +kernel
theorem dA_minusWide_2 : decode cA_minusWide 2 = .ok (.isub, 1) := by decide +kernel
theorem dA_minusWide_3 : decode cA_minusWide 3 = .ok (.iload_n 2, 1) := by decide +kernel
theorem dA_minusWide_4 : decode cA_minusWide 4 = .ok (.isub, 1) := by decide +kernel
theorem dA_minusWide_5 : decode cA_minusWide 5 = .ok (.istore_n 3, 1) := by decide +kernel
theorem dA_minusWide_6 : decode cA_minusWide 6 = .ok (.iload_n 0, 1) := by decide +kernel
theorem dA_minusWide_7 : decode cA_minusWide 7 = .ok (.iload_n 1, 1) := by decide +kernel
theorem dA_minusWide_8 : decode cA_minusWide 8 = .ok (.ixor, 1) := by decide +kernel
theorem dA_minusWide_9 : decode cA_minusWide 9 = .ok (.iload_n 0, 1) := by decide +kernel
theorem dA_minusWide_10 : decode cA_minusWide 10 = .ok (.iload_n 3, 1) := by decide +kernel
theorem dA_minusWide_11 : decode cA_minusWide 11 = .ok (.ixor, 1) := by decide +kernel
theorem dA_minusWide_12 : decode cA_minusWide 12 = .ok (.iand, 1) := by decide +kernel
theorem dA_minusWide_13 : decode cA_minusWide 13 = .ok (.ldc 25, 2) := by decide +kernel
theorem dA_minusWide_15 : decode cA_minusWide 15 = .ok (.iand, 1) := by decide +kernel
theorem dA_minusWide_16 : decode cA_minusWide 16 = .ok (.istore 4, 2) := by decide +kernel
theorem dA_minusWide_18 : decode cA_minusWide 18 = .ok (.iload_n 3, 1) := by decide +kernel
theorem dA_minusWide_19 : decode cA_minusWide 19 = .ok (.invokestatic 26, 3) := by decide +kernel
theorem dA_minusWide_22 : decode cA_minusWide 22 = .ok (.iload_n 0, 1) := by decide +kernel
theorem dA_minusWide_23 : decode cA_minusWide 23 = .ok (.iload_n 1, 1) := by decide +kernel
theorem dA_minusWide_24 : decode cA_minusWide 24 = .ok (.ixor, 1) := by decide +kernel
theorem dA_minusWide_25 : decode cA_minusWide 25 = .ok (.iload_n 3, 1) := by decide +kernel
theorem dA_minusWide_26 : decode cA_minusWide 26 = .ok (.ixor, 1) := by decide +kernel
theorem dA_minusWide_27 : decode cA_minusWide 27 = .ok (.bipush 8, 2) := by decide +kernel
theorem dA_minusWide_29 : decode cA_minusWide 29 = .ok (.ishr, 1) := by decide +kernel
theorem dA_minusWide_30 : decode cA_minusWide 30 = .ok (.bipush 16, 2) := by decide +kernel
theorem dA_minusWide_32 : decode cA_minusWide 32 = .ok (.iand, 1) := by decide +kernel
theorem dA_minusWide_33 : decode cA_minusWide 33 = .ok (.ior, 1) := by decide +kernel
theorem dA_minusWide_34 : decode cA_minusWide 34 = .ok (.iload 4, 2) := by decide +kernel
theorem dA_minusWide_36 : decode cA_minusWide 36 = .ok (.bipush 13, 2) := by decide +kernel
theorem dA_minusWide_38 : decode cA_minusWide 38 = .ok (.ishr, 1) := by decide +kernel
theorem dA_minusWide_39 : decode cA_minusWide 39 = .ok (.ior, 1) := by decide +kernel
theorem dA_minusWide_40 : decode cA_minusWide 40 = .ok (.iconst 2, 1) := by decide +kernel
theorem dA_minusWide_41 : decode cA_minusWide 41 = .ok (.ior, 1) := by decide +kernel
theorem dA_minusWide_42 : decode cA_minusWide 42 = .ok (.iload_n 3, 1) := by decide +kernel
theorem dA_minusWide_43 : decode cA_minusWide 43 = .ok (.bipush 16, 2) := by decide +kernel
theorem dA_minusWide_45 : decode cA_minusWide 45 = .ok (.ishr, 1) := by decide +kernel
theorem dA_minusWide_46 : decode cA_minusWide 46 = .ok (.iconst 1, 1) := by decide +kernel
theorem dA_minusWide_47 : decode cA_minusWide 47 = .ok (.iand, 1) := by decide +kernel
theorem dA_minusWide_48 : decode cA_minusWide 48 = .ok (.ior, 1) := by decide +kernel
theorem dA_minusWide_49 : decode cA_minusWide 49 = .ok (.istore 5, 2) := by decide +kernel
theorem dA_minusWide_51 : decode cA_minusWide 51 = .ok (.iload_n 3, 1) := by decide +kernel
theorem dA_minusWide_52 : decode cA_minusWide 52 = .ok (.ldc 29, 2) := by decide +kernel
theorem dA_minusWide_54 : decode cA_minusWide 54 = .ok (.iand, 1) := by decide +kernel
theorem dA_minusWide_55 : decode cA_minusWide 55 = .ok (.bipush 8, 2) := by decide +kernel
theorem dA_minusWide_57 : decode cA_minusWide 57 = .ok (.ishl, 1) := by decide +kernel
theorem dA_minusWide_58 : decode cA_minusWide 58 = .ok (.iload 5, 2) := by decide +kernel
theorem dA_minusWide_60 : decode cA_minusWide 60 = .ok (.ior, 1) := by decide +kernel
theorem dA_minusWide_61 : decode cA_minusWide 61 = .ok (.ireturn, 1) := by decide +kernel
theorem dA_byWide_0 : decode cA_byWide 0 = .ok (.iload_n 0, 1) := by decide +kernel
theorem dA_byWide_1 : decode cA_byWide 1 = .ok (.bipush 8, 2) := by decide +kernel
theorem dA_byWide_3 : decode cA_byWide 3 = .ok (.ishr, 1) := by decide +kernel
theorem dA_byWide_4 : decode cA_byWide 4 = .ok (.sipush 168, 3) := by decide +kernel
theorem dA_byWide_7 : decode cA_byWide 7 = .ok (.iand, 1) := by decide +kernel
theorem dA_byWide_8 : decode cA_byWide 8 = .ok (.iload_n 0, 1) := by decide +kernel
theorem dA_byWide_9 : decode cA_byWide 9 = .ok (.ldc 29, 2) := by decide +kernel
theorem dA_byWide_11 : decode cA_byWide 11 = .ok (.iand, 1) := by decide +kernel
theorem dA_byWide_12 : decode cA_byWide 12 = .ok (.ifCond .ne 8, 3) := by decide +kernel
theorem dA_byWide_15 : decode cA_byWide 15 = .ok (.bipush 64, 2) := by decide +kernel
theorem dA_byWide_17 : decode cA_byWide 17 = .ok (.goto 4, 3) := by decide +kernel
theorem dA_byWide_20 : decode cA_byWide 20 = .ok (.iconst 0, 1) := by decide +kernel
theorem dA_byWide_21 : decode cA_byWide 21 = .ok (.ior, 1) := by decide +kernel
theorem dA_byWide_22 : decode cA_byWide 22 = .ok (.ireturn, 1) := by decide +kernel
theorem dA_turned_0 : decode cA_turned 0 = .ok (.iload_n 0, 1) := by decide +kernel
theorem dA_turned_1 : decode cA_turned 1 = .ok (.iconst 1, 1) := by decide +kernel
theorem dA_turned_2 : decode cA_turned 2 = .ok (.iand, 1) := by decide +kernel
theorem dA_turned_3 : decode cA_turned 3 = .ok (.iconst 1, 1) := by decide +kernel
theorem dA_turned_4 : decode cA_turned 4 = .ok (.if_icmp .ne 7, 3) := by decide +kernel
theorem dA_turned_7 : decode cA_turned 7 = .ok (.iconst 1, 1) := by decide +kernel
theorem dA_turned_8 : decode cA_turned 8 = .ok (.goto 4, 3) := by decide +kernel
theorem dA_turned_11 : decode cA_turned 11 = .ok (.iconst 0, 1) := by decide +kernel
theorem dA_turned_12 : decode cA_turned 12 = .ok (.istore_n 3, 1) := by decide +kernel
theorem dA_turned_13 : decode cA_turned 13 = .ok (.iload_n 3, 1) := by decide +kernel
theorem dA_turned_14 : decode cA_turned 14 = .ok (.ifCond .eq 9, 3) := by decide +kernel
theorem dA_turned_17 : decode cA_turned 17 = .ok (.iload_n 1, 1) := by decide +kernel
theorem dA_turned_18 : decode cA_turned 18 = .ok (.iconst 1, 1) := by decide +kernel
theorem dA_turned_19 : decode cA_turned 19 = .ok (.iand, 1) := by decide +kernel
theorem dA_turned_20 : decode cA_turned 20 = .ok (.goto 7, 3) := by decide +kernel
theorem dA_turned_23 : decode cA_turned 23 = .ok (.iload_n 1, 1) := by decide +kernel
theorem dA_turned_24 : decode cA_turned 24 = .ok (.bipush 7, 2) := by decide +kernel
theorem dA_turned_26 : decode cA_turned 26 = .ok (.ishr, 1) := by decide +kernel
theorem dA_turned_27 : decode cA_turned 27 = .ok (.istore 4, 2) := by decide +kernel
theorem dA_turned_29 : decode cA_turned 29 = .ok (.iload_n 0, 1) := by decide +kernel
theorem dA_turned_30 : decode cA_turned 30 = .ok (.iload_n 1, 1) := by decide +kernel
theorem dA_turned_31 : decode cA_turned 31 = .ok (.iload 4, 2) := by decide +kernel
theorem dA_turned_33 : decode cA_turned 33 = .ok (.iload_n 2, 1) := by decide +kernel
theorem dA_turned_34 : decode cA_turned 34 = .ok (.invokestatic 30, 3) := by decide +kernel
theorem dA_turned_37 : decode cA_turned 37 = .ok (.istore 5, 2) := by decide +kernel
theorem dA_turned_39 : decode cA_turned 39 = .ok (.iload_n 3, 1) := by decide +kernel
theorem dA_turned_40 : decode cA_turned 40 = .ok (.ifCond .eq 15, 3) := by decide +kernel
theorem dA_turned_43 : decode cA_turned 43 = .ok (.iload_n 1, 1) := by decide +kernel
theorem dA_turned_44 : decode cA_turned 44 = .ok (.iconst 1, 1) := by decide +kernel
theorem dA_turned_45 : decode cA_turned 45 = .ok (.ishr, 1) := by decide +kernel
theorem dA_turned_46 : decode cA_turned 46 = .ok (.iload 5, 2) := by decide +kernel
theorem dA_turned_48 : decode cA_turned 48 = .ok (.bipush 7, 2) := by decide +kernel
theorem dA_turned_50 : decode cA_turned 50 = .ok (.ishl, 1) := by decide +kernel
theorem dA_turned_51 : decode cA_turned 51 = .ok (.ior, 1) := by decide +kernel
theorem dA_turned_52 : decode cA_turned 52 = .ok (.goto 13, 3) := by decide +kernel
theorem dA_turned_55 : decode cA_turned 55 = .ok (.iload_n 1, 1) := by decide +kernel
theorem dA_turned_56 : decode cA_turned 56 = .ok (.iconst 1, 1) := by decide +kernel
theorem dA_turned_57 : decode cA_turned 57 = .ok (.ishl, 1) := by decide +kernel
theorem dA_turned_58 : decode cA_turned 58 = .ok (.sipush 255, 3) := by decide +kernel
theorem dA_turned_61 : decode cA_turned 61 = .ok (.iand, 1) := by decide +kernel
theorem dA_turned_62 : decode cA_turned 62 = .ok (.iload 5, 2) := by decide +kernel
theorem dA_turned_64 : decode cA_turned 64 = .ok (.ior, 1) := by decide +kernel
theorem dA_turned_65 : decode cA_turned 65 = .ok (.istore 6, 2) := by decide +kernel
theorem dA_turned_67 : decode cA_turned 67 = .ok (.iload 6, 2) := by decide +kernel
theorem dA_turned_69 : decode cA_turned 69 = .ok (.bipush 8, 2) := by decide +kernel
theorem dA_turned_71 : decode cA_turned 71 = .ok (.ishl, 1) := by decide +kernel
theorem dA_turned_72 : decode cA_turned 72 = .ok (.iload 6, 2) := by decide +kernel
theorem dA_turned_74 : decode cA_turned 74 = .ok (.invokestatic 22, 3) := by decide +kernel
theorem dA_turned_77 : decode cA_turned 77 = .ok (.ior, 1) := by decide +kernel
theorem dA_turned_78 : decode cA_turned 78 = .ok (.iload 4, 2) := by decide +kernel
theorem dA_turned_80 : decode cA_turned 80 = .ok (.ior, 1) := by decide +kernel
theorem dA_turned_81 : decode cA_turned 81 = .ok (.ireturn, 1) := by decide +kernel
theorem dA_comesIn_0 : decode cA_comesIn 0 = .ok (.iload_n 0, 1) := by decide +kernel
theorem dA_comesIn_1 : decode cA_comesIn 1 = .ok (.tableswitch 54 0 6 #[43, 43, 45, 45, 54, 47, 52], 43) := by decide +kernel
theorem dA_comesIn_44 : decode cA_comesIn 44 = .ok (.iload_n 2, 1) := by decide +kernel
theorem dA_comesIn_45 : decode cA_comesIn 45 = .ok (.ireturn, 1) := by decide +kernel
theorem dA_comesIn_46 : decode cA_comesIn 46 = .ok (.iload_n 3, 1) := by decide +kernel
theorem dA_comesIn_47 : decode cA_comesIn 47 = .ok (.ireturn, 1) := by decide +kernel
theorem dA_comesIn_48 : decode cA_comesIn 48 = .ok (.iload_n 1, 1) := by decide +kernel
theorem dA_comesIn_49 : decode cA_comesIn 49 = .ok (.bipush 7, 2) := by decide +kernel
theorem dA_comesIn_51 : decode cA_comesIn 51 = .ok (.ishr, 1) := by decide +kernel
theorem dA_comesIn_52 : decode cA_comesIn 52 = .ok (.ireturn, 1) := by decide +kernel
theorem dA_comesIn_53 : decode cA_comesIn 53 = .ok (.iconst 1, 1) := by decide +kernel
theorem dA_comesIn_54 : decode cA_comesIn 54 = .ok (.ireturn, 1) := by decide +kernel
theorem dA_comesIn_55 : decode cA_comesIn 55 = .ok (.iconst 0, 1) := by decide +kernel
theorem dA_comesIn_56 : decode cA_comesIn 56 = .ok (.ireturn, 1) := by decide +kernel
theorem dA_bitFlags_0 : decode cA_bitFlags 0 = .ok (.iload_n 1, 1) := by decide +kernel
theorem dA_bitFlags_1 : decode cA_bitFlags 1 = .ok (.iconst 1, 1) := by decide +kernel
theorem dA_bitFlags_2 : decode cA_bitFlags 2 = .ok (.iload_n 0, 1) := by decide +kernel
theorem dA_bitFlags_3 : decode cA_bitFlags 3 = .ok (.ishl, 1) := by decide +kernel
theorem dA_bitFlags_4 : decode cA_bitFlags 4 = .ok (.iand, 1) := by decide +kernel
theorem dA_bitFlags_5 : decode cA_bitFlags 5 = .ok (.istore_n 3, 1) := by decide +kernel
theorem dA_bitFlags_6 : decode cA_bitFlags 6 = .ok (.iload_n 3, 1) := by decide +kernel
theorem dA_bitFlags_7 : decode cA_bitFlags 7 = .ok (.sipush 128, 3) := by decide +kernel
theorem dA_bitFlags_10 : decode cA_bitFlags 10 = .ok (.iand, 1) := by decide +kernel
theorem dA_bitFlags_11 : decode cA_bitFlags 11 = .ok (.iload_n 3, 1) := by decide +kernel
theorem dA_bitFlags_12 : decode cA_bitFlags 12 = .ok (.ifCond .ne 8, 3) := by decide +kernel
theorem dA_bitFlags_15 : decode cA_bitFlags 15 = .ok (.bipush 68, 2) := by decide +kernel
theorem dA_bitFlags_17 : decode cA_bitFlags 17 = .ok (.goto 4, 3) := by decide +kernel
theorem dA_bitFlags_20 : decode cA_bitFlags 20 = .ok (.iconst 0, 1) := by decide +kernel
theorem dA_bitFlags_21 : decode cA_bitFlags 21 = .ok (.ior, 1) := by decide +kernel
theorem dA_bitFlags_22 : decode cA_bitFlags 22 = .ok (.iload_n 1, 1) := by decide +kernel
theorem dA_bitFlags_23 : decode cA_bitFlags 23 = .ok (.bipush 40, 2) := by decide +kernel
theorem dA_bitFlags_25 : decode cA_bitFlags 25 = .ok (.iand, 1) := by decide +kernel
theorem dA_bitFlags_26 : decode cA_bitFlags 26 = .ok (.ior, 1) := by decide +kernel
theorem dA_bitFlags_27 : decode cA_bitFlags 27 = .ok (.bipush 16, 2) := by decide +kernel
theorem dA_bitFlags_29 : decode cA_bitFlags 29 = .ok (.ior, 1) := by decide +kernel
theorem dA_bitFlags_30 : decode cA_bitFlags 30 = .ok (.iload_n 2, 1) := by decide +kernel
theorem dA_bitFlags_31 : decode cA_bitFlags 31 = .ok (.ior, 1) := by decide +kernel
theorem dA_bitFlags_32 : decode cA_bitFlags 32 = .ok (.ireturn, 1) := by decide +kernel
theorem dA_adjusted_0 : decode cA_adjusted 0 = .ok (.iload_n 1, 1) := by decide +kernel
theorem dA_adjusted_1 : decode cA_adjusted 1 = .ok (.bipush 16, 2) := by decide +kernel
theorem dA_adjusted_3 : decode cA_adjusted 3 = .ok (.iand, 1) := by decide +kernel
theorem dA_adjusted_4 : decode cA_adjusted 4 = .ok (.ifCond .ne 12, 3) := by decide +kernel
theorem dA_adjusted_7 : decode cA_adjusted 7 = .ok (.iload_n 0, 1) := by decide +kernel
theorem dA_adjusted_8 : decode cA_adjusted 8 = .ok (.bipush 15, 2) := by decide +kernel
theorem dA_adjusted_10 : decode cA_adjusted 10 = .ok (.iand, 1) := by decide +kernel
theorem dA_adjusted_11 : decode cA_adjusted 11 = .ok (.bipush 9, 2) := by decide +kernel
theorem dA_adjusted_13 : decode cA_adjusted 13 = .ok (.if_icmp .le 8, 3) := by decide +kernel
theorem dA_adjusted_16 : decode cA_adjusted 16 = .ok (.bipush 6, 2) := by decide +kernel
theorem dA_adjusted_18 : decode cA_adjusted 18 = .ok (.goto 4, 3) := by decide +kernel
theorem dA_adjusted_21 : decode cA_adjusted 21 = .ok (.iconst 0, 1) := by decide +kernel
theorem dA_adjusted_22 : decode cA_adjusted 22 = .ok (.istore_n 2, 1) := by decide +kernel
theorem dA_adjusted_23 : decode cA_adjusted 23 = .ok (.iload_n 1, 1) := by decide +kernel
theorem dA_adjusted_24 : decode cA_adjusted 24 = .ok (.iconst 1, 1) := by decide +kernel
theorem dA_adjusted_25 : decode cA_adjusted 25 = .ok (.iand, 1) := by decide +kernel
theorem dA_adjusted_26 : decode cA_adjusted 26 = .ok (.ifCond .ne 10, 3) := by decide +kernel
theorem dA_adjusted_29 : decode cA_adjusted 29 = .ok (.iload_n 0, 1) := by decide +kernel
theorem dA_adjusted_30 : decode cA_adjusted 30 = .ok (.sipush 153, 3) := by decide +kernel
theorem dA_adjusted_33 : decode cA_adjusted 33 = .ok (.if_icmp .le 7, 3) := by decide +kernel
theorem dA_adjusted_36 : decode cA_adjusted 36 = .ok (.iconst 1, 1) := by decide +kernel
theorem dA_adjusted_37 : decode cA_adjusted 37 = .ok (.goto 4, 3) := by decide +kernel
theorem dA_adjusted_40 : decode cA_adjusted 40 = .ok (.iconst 0, 1) := by decide +kernel
theorem dA_adjusted_41 : decode cA_adjusted 41 = .ok (.istore_n 3, 1) := by decide +kernel
theorem dA_adjusted_42 : decode cA_adjusted 42 = .ok (.iload_n 2, 1) := by decide +kernel
theorem dA_adjusted_43 : decode cA_adjusted 43 = .ok (.bipush 96, 2) := by decide +kernel
theorem dA_adjusted_45 : decode cA_adjusted 45 = .ok (.iload_n 3, 1) := by decide +kernel
theorem dA_adjusted_46 : decode cA_adjusted 46 = .ok (.imul, 1) := by decide +kernel
theorem dA_adjusted_47 : decode cA_adjusted 47 = .ok (.iadd, 1) := by decide +kernel
theorem dA_adjusted_48 : decode cA_adjusted 48 = .ok (.istore_n 2, 1) := by decide +kernel
theorem dA_adjusted_49 : decode cA_adjusted 49 = .ok (.iload_n 1, 1) := by decide +kernel
theorem dA_adjusted_50 : decode cA_adjusted 50 = .ok (.iconst 2, 1) := by decide +kernel
theorem dA_adjusted_51 : decode cA_adjusted 51 = .ok (.iand, 1) := by decide +kernel
theorem dA_adjusted_52 : decode cA_adjusted 52 = .ok (.ifCond .eq 9, 3) := by decide +kernel
theorem dA_adjusted_55 : decode cA_adjusted 55 = .ok (.iload_n 0, 1) := by decide +kernel
theorem dA_adjusted_56 : decode cA_adjusted 56 = .ok (.iload_n 2, 1) := by decide +kernel
theorem dA_adjusted_57 : decode cA_adjusted 57 = .ok (.isub, 1) := by decide +kernel
theorem dA_adjusted_58 : decode cA_adjusted 58 = .ok (.goto 6, 3) := by decide +kernel
theorem dA_adjusted_61 : decode cA_adjusted 61 = .ok (.iload_n 0, 1) := by decide +kernel
theorem dA_adjusted_62 : decode cA_adjusted 62 = .ok (.iload_n 2, 1) := by decide +kernel
theorem dA_adjusted_63 : decode cA_adjusted 63 = .ok (.iadd, 1) := by decide +kernel
theorem dA_adjusted_64 : decode cA_adjusted 64 = .ok (.sipush 255, 3) := by decide +kernel
theorem dA_adjusted_67 : decode cA_adjusted 67 = .ok (.iand, 1) := by decide +kernel
theorem dA_adjusted_68 : decode cA_adjusted 68 = .ok (.istore 4, 2) := by decide +kernel
theorem dA_adjusted_70 : decode cA_adjusted 70 = .ok (.iload 4, 2) := by decide +kernel
theorem dA_adjusted_72 : decode cA_adjusted 72 = .ok (.bipush 8, 2) := by decide +kernel
theorem dA_adjusted_74 : decode cA_adjusted 74 = .ok (.ishl, 1) := by decide +kernel
theorem dA_adjusted_75 : decode cA_adjusted 75 = .ok (.iload 4, 2) := by decide +kernel
theorem dA_adjusted_77 : decode cA_adjusted 77 = .ok (.invokestatic 22, 3) := by decide +kernel
theorem dA_adjusted_80 : decode cA_adjusted 80 = .ok (.ior, 1) := by decide +kernel
theorem dA_adjusted_81 : decode cA_adjusted 81 = .ok (.iload_n 0, 1) := by decide +kernel
theorem dA_adjusted_82 : decode cA_adjusted 82 = .ok (.iload 4, 2) := by decide +kernel
theorem dA_adjusted_84 : decode cA_adjusted 84 = .ok (.ixor, 1) := by decide +kernel
theorem dA_adjusted_85 : decode cA_adjusted 85 = .ok (.bipush 16, 2) := by decide +kernel
theorem dA_adjusted_87 : decode cA_adjusted 87 = .ok (.iand, 1) := by decide +kernel
theorem dA_adjusted_88 : decode cA_adjusted 88 = .ok (.ior, 1) := by decide +kernel
theorem dA_adjusted_89 : decode cA_adjusted 89 = .ok (.iload_n 1, 1) := by decide +kernel
theorem dA_adjusted_90 : decode cA_adjusted 90 = .ok (.iconst 2, 1) := by decide +kernel
theorem dA_adjusted_91 : decode cA_adjusted 91 = .ok (.iand, 1) := by decide +kernel
theorem dA_adjusted_92 : decode cA_adjusted 92 = .ok (.ior, 1) := by decide +kernel
theorem dA_adjusted_93 : decode cA_adjusted 93 = .ok (.iload_n 3, 1) := by decide +kernel
theorem dA_adjusted_94 : decode cA_adjusted 94 = .ok (.ior, 1) := by decide +kernel
theorem dA_adjusted_95 : decode cA_adjusted 95 = .ok (.ireturn, 1) := by decide +kernel
theorem dB_init_0 : decode cB_init 0 = .ok (.aload_n 0, 1) := by decide +kernel
theorem dB_init_1 : decode cB_init 1 = .ok (.invokespecial 1, 3) := by decide +kernel
theorem dB_init_4 : decode cB_init 4 = .ok (.aload_n 0, 1) := by decide +kernel
theorem dB_init_5 : decode cB_init 5 = .ok (.sipush 4096, 3) := by decide +kernel
theorem dB_init_8 : decode cB_init 8 = .ok (.newarray .int, 2) := by decide +kernel
theorem dB_init_10 : decode cB_init 10 = .ok (.putfield 9, 3) := by decide +kernel
theorem dB_init_13 : decode cB_init 13 = .ok (.aload_n 0, 1) := by decide +kernel
theorem dB_init_14 : decode cB_init 14 = .ok (.bipush 64, 2) := by decide +kernel
theorem dB_init_16 : decode cB_init 16 = .ok (.newarray .int, 2) := by decide +kernel
theorem dB_init_18 : decode cB_init 18 = .ok (.putfield 13, 3) := by decide +kernel
theorem dB_init_21 : decode cB_init 21 = .ok (.aload_n 0, 1) := by decide +kernel
theorem dB_init_22 : decode cB_init 22 = .ok (.new 16, 3) := by decide +kernel
theorem dB_init_25 : decode cB_init 25 = .ok (.dup, 1) := by decide +kernel
theorem dB_init_26 : decode cB_init 26 = .ok (.invokespecial 18, 3) := by decide +kernel
theorem dB_init_29 : decode cB_init 29 = .ok (.putfield 19, 3) := by decide +kernel
theorem dB_init_32 : decode cB_init 32 = .ok (.aload_n 0, 1) := by decide +kernel
theorem dB_init_33 : decode cB_init 33 = .ok (.new 23, 3) := by decide +kernel
theorem dB_init_36 : decode cB_init 36 = .ok (.dup, 1) := by decide +kernel
theorem dB_init_37 : decode cB_init 37 = .ok (.invokespecial 25, 3) := by decide +kernel
theorem dB_init_40 : decode cB_init 40 = .ok (.putfield 26, 3) := by decide +kernel
theorem dB_init_43 : decode cB_init 43 = .ok (.return_, 1) := by decide +kernel
theorem dB_byteAt_0 : decode cB_byteAt 0 = .ok (.aload_n 0, 1) := by decide +kernel
theorem dB_byteAt_1 : decode cB_byteAt 1 = .ok (.getfield 9, 3) := by decide +kernel
theorem dB_byteAt_4 : decode cB_byteAt 4 = .ok (.iload_n 1, 1) := by decide +kernel
theorem dB_byteAt_5 : decode cB_byteAt 5 = .ok (.sipush 4095, 3) := by decide +kernel
theorem dB_byteAt_8 : decode cB_byteAt 8 = .ok (.iand, 1) := by decide +kernel
theorem dB_byteAt_9 : decode cB_byteAt 9 = .ok (.iaload, 1) := by decide +kernel
theorem dB_byteAt_10 : decode cB_byteAt 10 = .ok (.ireturn, 1) := by decide +kernel
theorem dB_place_0 : decode cB_place 0 = .ok (.aload_n 0, 1) := by decide +kernel
theorem dB_place_1 : decode cB_place 1 = .ok (.getfield 9, 3) := by decide +kernel
theorem dB_place_4 : decode cB_place 4 = .ok (.iload_n 1, 1) := by decide +kernel
theorem dB_place_5 : decode cB_place 5 = .ok (.sipush 4095, 3) := by decide +kernel
theorem dB_place_8 : decode cB_place 8 = .ok (.iand, 1) := by decide +kernel
theorem dB_place_9 : decode cB_place 9 = .ok (.iload_n 2, 1) := by decide +kernel
theorem dB_place_10 : decode cB_place 10 = .ok (.sipush 255, 3) := by decide +kernel
theorem dB_place_13 : decode cB_place 13 = .ok (.iand, 1) := by decide +kernel
theorem dB_place_14 : decode cB_place 14 = .ok (.iastore, 1) := by decide +kernel
theorem dB_place_15 : decode cB_place 15 = .ok (.return_, 1) := by decide +kernel
theorem dB_frames_0 : decode cB_frames 0 = .ok (.aload_n 0, 1) := by decide +kernel
theorem dB_frames_1 : decode cB_frames 1 = .ok (.getfield 30, 3) := by decide +kernel
theorem dB_frames_4 : decode cB_frames 4 = .ok (.bipush 12, 2) := by decide +kernel
theorem dB_frames_6 : decode cB_frames 6 = .ok (.ishr, 1) := by decide +kernel
theorem dB_frames_7 : decode cB_frames 7 = .ok (.ireturn, 1) := by decide +kernel
theorem dB_tickOfFrame_0 : decode cB_tickOfFrame 0 = .ok (.aload_n 0, 1) := by decide +kernel
theorem dB_tickOfFrame_1 : decode cB_tickOfFrame 1 = .ok (.getfield 30, 3) := by decide +kernel
theorem dB_tickOfFrame_4 : decode cB_tickOfFrame 4 = .ok (.sipush 4095, 3) := by decide +kernel
theorem dB_tickOfFrame_7 : decode cB_tickOfFrame 7 = .ok (.iand, 1) := by decide +kernel
theorem dB_tickOfFrame_8 : decode cB_tickOfFrame 8 = .ok (.ireturn, 1) := by decide +kernel
theorem dB_pass_0 : decode cB_pass 0 = .ok (.aload_n 0, 1) := by decide +kernel
theorem dB_pass_1 : decode cB_pass 1 = .ok (.getfield 30, 3) := by decide +kernel
theorem dB_pass_4 : decode cB_pass 4 = .ok (.bipush 6, 2) := by decide +kernel
theorem dB_pass_6 : decode cB_pass 6 = .ok (.ishr, 1) := by decide +kernel
theorem dB_pass_7 : decode cB_pass 7 = .ok (.istore_n 2, 1) := by decide +kernel
theorem dB_pass_8 : decode cB_pass 8 = .ok (.aload_n 0, 1) := by decide +kernel
theorem dB_pass_9 : decode cB_pass 9 = .ok (.dup, 1) := by decide +kernel
theorem dB_pass_10 : decode cB_pass 10 = .ok (.getfield 30, 3) := by decide +kernel
theorem dB_pass_13 : decode cB_pass 13 = .ok (.iload_n 1, 1) := by decide +kernel
theorem dB_pass_14 : decode cB_pass 14 = .ok (.iadd, 1) := by decide +kernel
theorem dB_pass_15 : decode cB_pass 15 = .ok (.putfield 30, 3) := by decide +kernel
theorem dB_pass_18 : decode cB_pass 18 = .ok (.aload_n 0, 1) := by decide +kernel
theorem dB_pass_19 : decode cB_pass 19 = .ok (.getfield 30, 3) := by decide +kernel
theorem dB_pass_22 : decode cB_pass 22 = .ok (.bipush 6, 2) := by decide +kernel
theorem dB_pass_24 : decode cB_pass 24 = .ok (.ishr, 1) := by decide +kernel
theorem dB_pass_25 : decode cB_pass 25 = .ok (.iload_n 2, 1) := by decide +kernel
theorem dB_pass_26 : decode cB_pass 26 = .ok (.if_icmp .eq 22, 3) := by decide +kernel
theorem dB_pass_29 : decode cB_pass 29 = .ok (.aload_n 0, 1) := by decide +kernel
theorem dB_pass_30 : decode cB_pass 30 = .ok (.getfield 13, 3) := by decide +kernel
theorem dB_pass_33 : decode cB_pass 33 = .ok (.aload_n 0, 1) := by decide +kernel
theorem dB_pass_34 : decode cB_pass 34 = .ok (.getfield 30, 3) := by decide +kernel
theorem dB_pass_37 : decode cB_pass 37 = .ok (.bipush 6, 2) := by decide +kernel
theorem dB_pass_39 : decode cB_pass 39 = .ok (.ishr, 1) := by decide +kernel
theorem dB_pass_40 : decode cB_pass 40 = .ok (.bipush 63, 2) := by decide +kernel
theorem dB_pass_42 : decode cB_pass 42 = .ok (.iand, 1) := by decide +kernel
theorem dB_pass_43 : decode cB_pass 43 = .ok (.aload_n 0, 1) := by decide +kernel
theorem dB_pass_44 : decode cB_pass 44 = .ok (.getfield 34, 3) := by decide +kernel
theorem dB_pass_47 : decode cB_pass 47 = .ok (.iastore, 1) := by decide +kernel
theorem dB_pass_48 : decode cB_pass 48 = .ok (.return_, 1) := by decide +kernel
theorem dB_fetchAt_0 : decode cB_fetchAt 0 = .ok (.aload_n 0, 1) := by decide +kernel
theorem dB_fetchAt_1 : decode cB_fetchAt 1 = .ok (.aload_n 0, 1) := by decide +kernel
theorem dB_fetchAt_2 : decode cB_fetchAt 2 = .ok (.iload_n 1, 1) := by decide +kernel
theorem dB_fetchAt_3 : decode cB_fetchAt 3 = .ok (.invokestatic 37, 3) := by decide +kernel
theorem dB_fetchAt_6 : decode cB_fetchAt 6 = .ok (.invokevirtual 41, 3) := by decide +kernel
theorem dB_fetchAt_9 : decode cB_fetchAt 9 = .ok (.iconst 4, 1) := by decide +kernel
theorem dB_fetchAt_10 : decode cB_fetchAt 10 = .ok (.iadd, 1) := by decide +kernel
theorem dB_fetchAt_11 : decode cB_fetchAt 11 = .ok (.invokevirtual 45, 3) := by decide +kernel
theorem dB_fetchAt_14 : decode cB_fetchAt 14 = .ok (.aload_n 0, 1) := by decide +kernel
theorem dB_fetchAt_15 : decode cB_fetchAt 15 = .ok (.iload_n 1, 1) := by decide +kernel
theorem dB_fetchAt_16 : decode cB_fetchAt 16 = .ok (.invokevirtual 49, 3) := by decide +kernel
theorem dB_fetchAt_19 : decode cB_fetchAt 19 = .ok (.ireturn, 1) := by decide +kernel
theorem dB_read_0 : decode cB_read 0 = .ok (.aload_n 0, 1) := by decide +kernel
theorem dB_read_1 : decode cB_read 1 = .ok (.aload_n 0, 1) := by decide +kernel
theorem dB_read_2 : decode cB_read 2 = .ok (.iload_n 1, 1) := by decide +kernel
theorem dB_read_3 : decode cB_read 3 = .ok (.invokestatic 37, 3) := by decide +kernel
theorem dB_read_6 : decode cB_read 6 = .ok (.invokevirtual 41, 3) := by decide +kernel
theorem dB_read_9 : decode cB_read 9 = .ok (.iconst 3, 1) := by decide +kernel
theorem dB_read_10 : decode cB_read 10 = .ok (.iadd, 1) := by decide +kernel
theorem dB_read_11 : decode cB_read 11 = .ok (.invokevirtual 45, 3) := by decide +kernel
theorem dB_read_14 : decode cB_read 14 = .ok (.aload_n 0, 1) := by decide +kernel
theorem dB_read_15 : decode cB_read 15 = .ok (.iload_n 1, 1) := by decide +kernel
theorem dB_read_16 : decode cB_read 16 = .ok (.invokevirtual 49, 3) := by decide +kernel
theorem dB_read_19 : decode cB_read 19 = .ok (.ireturn, 1) := by decide +kernel
theorem dB_write_0 : decode cB_write 0 = .ok (.aload_n 0, 1) := by decide +kernel
theorem dB_write_1 : decode cB_write 1 = .ok (.aload_n 0, 1) := by decide +kernel
theorem dB_write_2 : decode cB_write 2 = .ok (.iload_n 1, 1) := by decide +kernel
theorem dB_write_3 : decode cB_write 3 = .ok (.invokestatic 37, 3) := by decide +kernel
theorem dB_write_6 : decode cB_write 6 = .ok (.invokevirtual 41, 3) := by decide +kernel
theorem dB_write_9 : decode cB_write 9 = .ok (.iconst 3, 1) := by decide +kernel
theorem dB_write_10 : decode cB_write 10 = .ok (.iadd, 1) := by decide +kernel
theorem dB_write_11 : decode cB_write 11 = .ok (.invokevirtual 45, 3) := by decide +kernel
theorem dB_write_14 : decode cB_write 14 = .ok (.iload_n 1, 1) := by decide +kernel
theorem dB_write_15 : decode cB_write 15 = .ok (.sipush 4095, 3) := by decide +kernel
theorem dB_write_18 : decode cB_write 18 = .ok (.iand, 1) := by decide +kernel
theorem dB_write_19 : decode cB_write 19 = .ok (.sipush 1024, 3) := by decide +kernel
theorem dB_write_22 : decode cB_write 22 = .ok (.if_icmp .lt 9, 3) := by decide +kernel
theorem dB_write_25 : decode cB_write 25 = .ok (.aload_n 0, 1) := by decide +kernel
theorem dB_write_26 : decode cB_write 26 = .ok (.iload_n 1, 1) := by decide +kernel
theorem dB_write_27 : decode cB_write 27 = .ok (.iload_n 2, 1) := by decide +kernel
theorem dB_write_28 : decode cB_write 28 = .ok (.invokevirtual 53, 3) := by decide +kernel
theorem dB_write_31 : decode cB_write 31 = .ok (.return_, 1) := by decide +kernel
theorem dB_readPort_0 : decode cB_readPort 0 = .ok (.iload_n 1, 1) := by decide +kernel
theorem dB_readPort_1 : decode cB_readPort 1 = .ok (.iconst 1, 1) := by decide +kernel
theorem dB_readPort_2 : decode cB_readPort 2 = .ok (.iand, 1) := by decide +kernel
theorem dB_readPort_3 : decode cB_readPort 3 = .ok (.iconst 1, 1) := by decide +kernel
theorem dB_readPort_4 : decode cB_readPort 4 = .ok (.if_icmp .ne 12, 3) := by decide +kernel
theorem dB_readPort_7 : decode cB_readPort 7 = .ok (.aload_n 0, 1) := by decide +kernel
theorem dB_readPort_8 : decode cB_readPort 8 = .ok (.iconst 4, 1) := by decide +kernel
theorem dB_readPort_9 : decode cB_readPort 9 = .ok (.invokevirtual 45, 3) := by decide +kernel
theorem dB_readPort_12 : decode cB_readPort 12 = .ok (.sipush 255, 3) := by decide +kernel
theorem dB_readPort_15 : decode cB_readPort 15 = .ok (.ireturn, 1) := by decide +kernel
theorem dB_readPort_16 : decode cB_readPort 16 = .ok (.aload_n 0, 1) := by decide +kernel
theorem dB_readPort_17 : decode cB_readPort 17 = .ok (.aload_n 0, 1) := by decide +kernel
theorem dB_readPort_18 : decode cB_readPort 18 = .ok (.iconst 1, 1) := by decide +kernel
theorem dB_readPort_19 : decode cB_readPort 19 = .ok (.invokevirtual 41, 3) := by decide +kernel
theorem dB_readPort_22 : decode cB_readPort 22 = .ok (.invokevirtual 45, 3) := by decide +kernel
theorem dB_readPort_25 : decode cB_readPort 25 = .ok (.aload_n 0, 1) := by decide +kernel
theorem dB_readPort_26 : decode cB_readPort 26 = .ok (.getfield 26, 3) := by decide +kernel
theorem dB_readPort_29 : decode cB_readPort 29 = .ok (.aload_n 0, 1) := by decide +kernel
theorem dB_readPort_30 : decode cB_readPort 30 = .ok (.getfield 30, 3) := by decide +kernel
theorem dB_readPort_33 : decode cB_readPort 33 = .ok (.invokevirtual 57, 3) := by decide +kernel
theorem dB_readPort_36 : decode cB_readPort 36 = .ok (.sipush 160, 3) := by decide +kernel
theorem dB_readPort_39 : decode cB_readPort 39 = .ok (.aload_n 0, 1) := by decide +kernel
theorem dB_readPort_40 : decode cB_readPort 40 = .ok (.getfield 26, 3) := by decide +kernel
theorem dB_readPort_43 : decode cB_readPort 43 = .ok (.invokevirtual 60, 3) := by decide +kernel
theorem dB_readPort_46 : decode cB_readPort 46 = .ok (.bipush 6, 2) := by decide +kernel
theorem dB_readPort_48 : decode cB_readPort 48 = .ok (.ishl, 1) := by decide +kernel
theorem dB_readPort_49 : decode cB_readPort 49 = .ok (.ior, 1) := by decide +kernel
theorem dB_readPort_50 : decode cB_readPort 50 = .ok (.aload_n 0, 1) := by decide +kernel
theorem dB_readPort_51 : decode cB_readPort 51 = .ok (.getfield 19, 3) := by decide +kernel
theorem dB_readPort_54 : decode cB_readPort 54 = .ok (.iload_n 1, 1) := by decide +kernel
theorem dB_readPort_55 : decode cB_readPort 55 = .ok (.invokevirtual 64, 3) := by decide +kernel
theorem dB_readPort_58 : decode cB_readPort 58 = .ok (.ior, 1) := by decide +kernel
theorem dB_readPort_59 : decode cB_readPort 59 = .ok (.istore_n 2, 1) := by decide +kernel
theorem dB_readPort_60 : decode cB_readPort 60 = .ok (.aload_n 0, 1) := by decide +kernel
theorem dB_readPort_61 : decode cB_readPort 61 = .ok (.iconst 4, 1) := by decide +kernel
theorem dB_readPort_62 : decode cB_readPort 62 = .ok (.invokevirtual 45, 3) := by decide +kernel
theorem dB_readPort_65 : decode cB_readPort 65 = .ok (.iload_n 2, 1) := by decide +kernel
theorem dB_readPort_66 : decode cB_readPort 66 = .ok (.ireturn, 1) := by decide +kernel
theorem dB_writePort_0 : decode cB_writePort 0 = .ok (.iload_n 1, 1) := by decide +kernel
theorem dB_writePort_1 : decode cB_writePort 1 = .ok (.iconst 1, 1) := by decide +kernel
theorem dB_writePort_2 : decode cB_writePort 2 = .ok (.iand, 1) := by decide +kernel
theorem dB_writePort_3 : decode cB_writePort 3 = .ok (.iconst 1, 1) := by decide +kernel
theorem dB_writePort_4 : decode cB_writePort 4 = .ok (.if_icmp .ne 9, 3) := by decide +kernel
theorem dB_writePort_7 : decode cB_writePort 7 = .ok (.aload_n 0, 1) := by decide +kernel
theorem dB_writePort_8 : decode cB_writePort 8 = .ok (.iconst 4, 1) := by decide +kernel
theorem dB_writePort_9 : decode cB_writePort 9 = .ok (.invokevirtual 45, 3) := by decide +kernel
theorem dB_writePort_12 : decode cB_writePort 12 = .ok (.return_, 1) := by decide +kernel
theorem dB_writePort_13 : decode cB_writePort 13 = .ok (.aload_n 0, 1) := by decide +kernel
theorem dB_writePort_14 : decode cB_writePort 14 = .ok (.aload_n 0, 1) := by decide +kernel
theorem dB_writePort_15 : decode cB_writePort 15 = .ok (.iconst 1, 1) := by decide +kernel
theorem dB_writePort_16 : decode cB_writePort 16 = .ok (.invokevirtual 41, 3) := by decide +kernel
theorem dB_writePort_19 : decode cB_writePort 19 = .ok (.iconst 4, 1) := by decide +kernel
theorem dB_writePort_20 : decode cB_writePort 20 = .ok (.iadd, 1) := by decide +kernel
theorem dB_writePort_21 : decode cB_writePort 21 = .ok (.iconst 1, 1) := by decide +kernel
theorem dB_writePort_22 : decode cB_writePort 22 = .ok (.isub, 1) := by decide +kernel
theorem dB_writePort_23 : decode cB_writePort 23 = .ok (.invokevirtual 45, 3) := by decide +kernel
theorem dB_writePort_26 : decode cB_writePort 26 = .ok (.aload_n 0, 1) := by decide +kernel
theorem dB_writePort_27 : decode cB_writePort 27 = .ok (.iload_n 2, 1) := by decide +kernel
theorem dB_writePort_28 : decode cB_writePort 28 = .ok (.bipush 7, 2) := by decide +kernel
theorem dB_writePort_30 : decode cB_writePort 30 = .ok (.iand, 1) := by decide +kernel
theorem dB_writePort_31 : decode cB_writePort 31 = .ok (.putfield 34, 3) := by decide +kernel
theorem dB_writePort_34 : decode cB_writePort 34 = .ok (.iload_n 2, 1) := by decide +kernel
theorem dB_writePort_35 : decode cB_writePort 35 = .ok (.iconst 4, 1) := by decide +kernel
theorem dB_writePort_36 : decode cB_writePort 36 = .ok (.ishr, 1) := by decide +kernel
theorem dB_writePort_37 : decode cB_writePort 37 = .ok (.iconst 1, 1) := by decide +kernel
theorem dB_writePort_38 : decode cB_writePort 38 = .ok (.iand, 1) := by decide +kernel
theorem dB_writePort_39 : decode cB_writePort 39 = .ok (.istore_n 3, 1) := by decide +kernel
theorem dB_writePort_40 : decode cB_writePort 40 = .ok (.iload_n 3, 1) := by decide +kernel
theorem dB_writePort_41 : decode cB_writePort 41 = .ok (.aload_n 0, 1) := by decide +kernel
theorem dB_writePort_42 : decode cB_writePort 42 = .ok (.getfield 67, 3) := by decide +kernel
theorem dB_writePort_45 : decode cB_writePort 45 = .ok (.if_icmp .eq 13, 3) := by decide +kernel
theorem dB_writePort_48 : decode cB_writePort 48 = .ok (.aload_n 0, 1) := by decide +kernel
theorem dB_writePort_49 : decode cB_writePort 49 = .ok (.dup, 1) := by decide +kernel
theorem dB_writePort_50 : decode cB_writePort 50 = .ok (.getfield 70, 3) := by decide +kernel
theorem dB_writePort_53 : decode cB_writePort 53 = .ok (.iconst 1, 1) := by decide +kernel
theorem dB_writePort_54 : decode cB_writePort 54 = .ok (.iadd, 1) := by decide +kernel
theorem dB_writePort_55 : decode cB_writePort 55 = .ok (.putfield 70, 3) := by decide +kernel
theorem dB_writePort_58 : decode cB_writePort 58 = .ok (.aload_n 0, 1) := by decide +kernel
theorem dB_writePort_59 : decode cB_writePort 59 = .ok (.iload_n 3, 1) := by decide +kernel
theorem dB_writePort_60 : decode cB_writePort 60 = .ok (.putfield 67, 3) := by decide +kernel
theorem dB_writePort_63 : decode cB_writePort 63 = .ok (.aload_n 0, 1) := by decide +kernel
theorem dB_writePort_64 : decode cB_writePort 64 = .ok (.iconst 1, 1) := by decide +kernel
theorem dB_writePort_65 : decode cB_writePort 65 = .ok (.invokevirtual 45, 3) := by decide +kernel
theorem dB_writePort_68 : decode cB_writePort 68 = .ok (.return_, 1) := by decide +kernel
theorem dB_isShared_0 : decode cB_isShared 0 = .ok (.iload_n 0, 1) := by decide +kernel
theorem dB_isShared_1 : decode cB_isShared 1 = .ok (.sipush 3072, 3) := by decide +kernel
theorem dB_isShared_4 : decode cB_isShared 4 = .ok (.iand, 1) := by decide +kernel
theorem dB_isShared_5 : decode cB_isShared 5 = .ok (.sipush 1024, 3) := by decide +kernel
theorem dB_isShared_8 : decode cB_isShared 8 = .ok (.if_icmp .ne 7, 3) := by decide +kernel
theorem dB_isShared_11 : decode cB_isShared 11 = .ok (.iconst 1, 1) := by decide +kernel
theorem dB_isShared_12 : decode cB_isShared 12 = .ok (.goto 4, 3) := by decide +kernel
theorem dB_isShared_15 : decode cB_isShared 15 = .ok (.iconst 0, 1) := by decide +kernel
theorem dB_isShared_16 : decode cB_isShared 16 = .ok (.ireturn, 1) := by decide +kernel
theorem dB_delay_0 : decode cB_delay 0 = .ok (.aload_n 0, 1) := by decide +kernel
theorem dB_delay_1 : decode cB_delay 1 = .ok (.getfield 30, 3) := by decide +kernel
theorem dB_delay_4 : decode cB_delay 4 = .ok (.bipush 6, 2) := by decide +kernel
theorem dB_delay_6 : decode cB_delay 6 = .ok (.ishr, 1) := by decide +kernel
theorem dB_delay_7 : decode cB_delay 7 = .ok (.bipush 63, 2) := by decide +kernel
theorem dB_delay_9 : decode cB_delay 9 = .ok (.iand, 1) := by decide +kernel
theorem dB_delay_10 : decode cB_delay 10 = .ok (.istore_n 2, 1) := by decide +kernel
theorem dB_delay_11 : decode cB_delay 11 = .ok (.iload_n 1, 1) := by decide +kernel
theorem dB_delay_12 : decode cB_delay 12 = .ok (.ifCond .eq 31, 3) := by decide +kernel
theorem dB_delay_15 : decode cB_delay 15 = .ok (.iload_n 2, 1) := by decide +kernel
theorem dB_delay_16 : decode cB_delay 16 = .ok (.bipush 16, 2) := by decide +kernel
theorem dB_delay_18 : decode cB_delay 18 = .ok (.if_icmp .lt 25, 3) := by decide +kernel
theorem dB_delay_21 : decode cB_delay 21 = .ok (.iload_n 2, 1) := by decide +kernel
theorem dB_delay_22 : decode cB_delay 22 = .ok (.bipush 47, 2) := by decide +kernel
theorem dB_delay_24 : decode cB_delay 24 = .ok (.if_icmp .gt 19, 3) := by decide +kernel
theorem dB_delay_27 : decode cB_delay 27 = .ok (.aload_n 0, 1) := by decide +kernel
theorem dB_delay_28 : decode cB_delay 28 = .ok (.getfield 30, 3) := by decide +kernel
theorem dB_delay_31 : decode cB_delay 31 = .ok (.bipush 63, 2) := by decide +kernel
theorem dB_delay_33 : decode cB_delay 33 = .ok (.iand, 1) := by decide +kernel
theorem dB_delay_34 : decode cB_delay 34 = .ok (.bipush 32, 2) := by decide +kernel
theorem dB_delay_36 : decode cB_delay 36 = .ok (.if_icmp .ge 7, 3) := by decide +kernel
theorem dB_delay_39 : decode cB_delay 39 = .ok (.iconst 1, 1) := by decide +kernel
theorem dB_delay_40 : decode cB_delay 40 = .ok (.goto 4, 3) := by decide +kernel
theorem dB_delay_43 : decode cB_delay 43 = .ok (.iconst 0, 1) := by decide +kernel
theorem dB_delay_44 : decode cB_delay 44 = .ok (.istore_n 3, 1) := by decide +kernel
theorem dB_delay_45 : decode cB_delay 45 = .ok (.iload_n 3, 1) := by decide +kernel
theorem dB_delay_46 : decode cB_delay 46 = .ok (.ifCond .eq 28, 3) := by decide +kernel
theorem dB_delay_49 : decode cB_delay 49 = .ok (.aload_n 0, 1) := by decide +kernel
theorem dB_delay_50 : decode cB_delay 50 = .ok (.getfield 30, 3) := by decide +kernel
theorem dB_delay_53 : decode cB_delay 53 = .ok (.bipush 7, 2) := by decide +kernel
theorem dB_delay_55 : decode cB_delay 55 = .ok (.iand, 1) := by decide +kernel
theorem dB_delay_56 : decode cB_delay 56 = .ok (.bipush 6, 2) := by decide +kernel
theorem dB_delay_58 : decode cB_delay 58 = .ok (.if_icmp .ge 16, 3) := by decide +kernel
theorem dB_delay_61 : decode cB_delay 61 = .ok (.bipush 6, 2) := by decide +kernel
theorem dB_delay_63 : decode cB_delay 63 = .ok (.aload_n 0, 1) := by decide +kernel
theorem dB_delay_64 : decode cB_delay 64 = .ok (.getfield 30, 3) := by decide +kernel
theorem dB_delay_67 : decode cB_delay 67 = .ok (.bipush 7, 2) := by decide +kernel
theorem dB_delay_69 : decode cB_delay 69 = .ok (.iand, 1) := by decide +kernel
theorem dB_delay_70 : decode cB_delay 70 = .ok (.isub, 1) := by decide +kernel
theorem dB_delay_71 : decode cB_delay 71 = .ok (.goto 4, 3) := by decide +kernel
theorem dB_delay_74 : decode cB_delay 74 = .ok (.iconst 0, 1) := by decide +kernel
theorem dB_delay_75 : decode cB_delay 75 = .ok (.ireturn, 1) := by decide +kernel
theorem dK_init_0 : decode cK_init 0 = .ok (.aload_n 0, 1) := by decide +kernel
theorem dK_init_1 : decode cK_init 1 = .ok (.invokespecial 1, 3) := by decide +kernel
theorem dK_init_4 : decode cK_init 4 = .ok (.aload_n 0, 1) := by decide +kernel
theorem dK_init_5 : decode cK_init 5 = .ok (.bipush 8, 2) := by decide +kernel
theorem dK_init_7 : decode cK_init 7 = .ok (.newarray .int, 2) := by decide +kernel
theorem dK_init_9 : decode cK_init 9 = .ok (.putfield 9, 3) := by decide +kernel
theorem dK_init_12 : decode cK_init 12 = .ok (.return_, 1) := by decide +kernel
theorem dK_move_0 : decode cK_move 0 = .ok (.iload_n 1, 1) := by decide +kernel
theorem dK_move_1 : decode cK_move 1 = .ok (.ifCond .lt 18, 3) := by decide +kernel
theorem dK_move_4 : decode cK_move 4 = .ok (.iload_n 1, 1) := by decide +kernel
theorem dK_move_5 : decode cK_move 5 = .ok (.bipush 8, 2) := by decide +kernel
theorem dK_move_7 : decode cK_move 7 = .ok (.if_icmp .ge 12, 3) := by decide +kernel
theorem dK_move_10 : decode cK_move 10 = .ok (.iload_n 2, 1) := by decide +kernel
theorem dK_move_11 : decode cK_move 11 = .ok (.ifCond .lt 8, 3) := by decide +kernel
theorem dK_move_14 : decode cK_move 14 = .ok (.iload_n 2, 1) := by decide +kernel
theorem dK_move_15 : decode cK_move 15 = .ok (.iconst 5, 1) := by decide +kernel
theorem dK_move_16 : decode cK_move 16 = .ok (.if_icmp .lt 5, 3) := by decide +kernel
theorem dK_move_19 : decode cK_move 19 = .ok (.iconst 0, 1) := by decide +kernel
theorem dK_move_20 : decode cK_move 20 = .ok (.ireturn, 1) := by decide +kernel
theorem dK_move_21 : decode cK_move 21 = .ok (.iconst 1, 1) := by decide +kernel
theorem dK_move_22 : decode cK_move 22 = .ok (.iload_n 2, 1) := by decide +kernel
theorem dK_move_23 : decode cK_move 23 = .ok (.ishl, 1) := by decide +kernel
theorem dK_move_24 : decode cK_move 24 = .ok (.istore 4, 2) := by decide +kernel
theorem dK_move_26 : decode cK_move 26 = .ok (.aload_n 0, 1) := by decide +kernel
theorem dK_move_27 : decode cK_move 27 = .ok (.getfield 9, 3) := by decide +kernel
theorem dK_move_30 : decode cK_move 30 = .ok (.iload_n 1, 1) := by decide +kernel
theorem dK_move_31 : decode cK_move 31 = .ok (.iload_n 3, 1) := by decide +kernel
theorem dK_move_32 : decode cK_move 32 = .ok (.ifCond .eq 15, 3) := by decide +kernel
theorem dK_move_35 : decode cK_move 35 = .ok (.aload_n 0, 1) := by decide +kernel
theorem dK_move_36 : decode cK_move 36 = .ok (.getfield 9, 3) := by decide +kernel
theorem dK_move_39 : decode cK_move 39 = .ok (.iload_n 1, 1) := by decide +kernel
theorem dK_move_40 : decode cK_move 40 = .ok (.iaload, 1) := by decide +kernel
theorem dK_move_41 : decode cK_move 41 = .ok (.iload 4, 2) := by decide +kernel
theorem dK_move_43 : decode cK_move 43 = .ok (.ior, 1) := by decide +kernel
theorem dK_move_44 : decode cK_move 44 = .ok (.goto 14, 3) := by decide +kernel
theorem dK_move_47 : decode cK_move 47 = .ok (.aload_n 0, 1) := by decide +kernel
theorem dK_move_48 : decode cK_move 48 = .ok (.getfield 9, 3) := by decide +kernel
theorem dK_move_51 : decode cK_move 51 = .ok (.iload_n 1, 1) := by decide +kernel
theorem dK_move_52 : decode cK_move 52 = .ok (.iaload, 1) := by decide +kernel
theorem dK_move_53 : decode cK_move 53 = .ok (.iload 4, 2) := by decide +kernel
theorem dK_move_55 : decode cK_move 55 = .ok (.iconst (-1), 1) := by decide +kernel
theorem dK_move_56 : decode cK_move 56 = .ok (.ixor, 1) := by decide +kernel
theorem dK_move_57 : decode cK_move 57 = .ok (.iand, 1) := by decide +kernel
theorem dK_move_58 : decode cK_move 58 = .ok (.iastore, 1) := by decide +kernel
theorem dK_move_59 : decode cK_move 59 = .ok (.iconst 1, 1) := by decide +kernel
theorem dK_move_60 : decode cK_move 60 = .ok (.ireturn, 1) := by decide +kernel
theorem dK_upIn_0 : decode cK_upIn 0 = .ok (.iconst 0, 1) := by decide +kernel
theorem dK_upIn_1 : decode cK_upIn 1 = .ok (.istore_n 2, 1) := by decide +kernel
theorem dK_upIn_2 : decode cK_upIn 2 = .ok (.iconst 0, 1) := by decide +kernel
theorem dK_upIn_3 : decode cK_upIn 3 = .ok (.istore_n 3, 1) := by decide +kernel
theorem dK_upIn_4 : decode cK_upIn 4 = .ok (.iload_n 3, 1) := by decide +kernel
theorem dK_upIn_5 : decode cK_upIn 5 = .ok (.bipush 8, 2) := by decide +kernel
theorem dK_upIn_7 : decode cK_upIn 7 = .ok (.if_icmp .ge 28, 3) := by decide +kernel
theorem dK_upIn_10 : decode cK_upIn 10 = .ok (.iload_n 1, 1) := by decide +kernel
theorem dK_upIn_11 : decode cK_upIn 11 = .ok (.sipush 256, 3) := by decide +kernel
theorem dK_upIn_14 : decode cK_upIn 14 = .ok (.iload_n 3, 1) := by decide +kernel
theorem dK_upIn_15 : decode cK_upIn 15 = .ok (.ishl, 1) := by decide +kernel
theorem dK_upIn_16 : decode cK_upIn 16 = .ok (.iand, 1) := by decide +kernel
theorem dK_upIn_17 : decode cK_upIn 17 = .ok (.ifCond .ne 12, 3) := by decide +kernel
theorem dK_upIn_20 : decode cK_upIn 20 = .ok (.iload_n 2, 1) := by decide +kernel
