theorem dP_more_30 : decode cP_more 30 = .ok (.iload_n 3, 1) := by decide +kernel
theorem dP_more_31 : decode cP_more 31 = .ok (.ifCond .ne 11, 3) := by decide +kernel
theorem dP_more_34 : decode cP_more 34 = .ok (.aload_n 0, 1) := by decide +kernel
theorem dP_more_35 : decode cP_more 35 = .ok (.iload_n 2, 1) := by decide +kernel
theorem dP_more_36 : decode cP_more 36 = .ok (.invokevirtual 229, 3) := by decide +kernel
theorem dP_more_39 : decode cP_more 39 = .ok (.goto 8, 3) := by decide +kernel
theorem dP_more_42 : decode cP_more 42 = .ok (.aload_n 0, 1) := by decide +kernel
theorem dP_more_43 : decode cP_more 43 = .ok (.iload_n 2, 1) := by decide +kernel
theorem dP_more_44 : decode cP_more 44 = .ok (.invokevirtual 232, 3) := by decide +kernel
theorem dP_more_47 : decode cP_more 47 = .ok (.iload_n 1, 1) := by decide +kernel
theorem dP_more_48 : decode cP_more 48 = .ok (.bipush 6, 2) := by decide +kernel
theorem dP_more_50 : decode cP_more 50 = .ok (.ishr, 1) := by decide +kernel
theorem dP_more_51 : decode cP_more 51 = .ok (.iconst 1, 1) := by decide +kernel
theorem dP_more_52 : decode cP_more 52 = .ok (.if_icmp .eq 4, 3) := by decide +kernel
theorem dP_more_55 : decode cP_more 55 = .ok (.return_, 1) := by decide +kernel
theorem dP_more_56 : decode cP_more 56 = .ok (.iload_n 3, 1) := by decide +kernel
theorem dP_more_57 : decode cP_more 57 = .ok (.tableswitch 172 0 6 #[43, 51, 87, 95, 103, 125, 153], 43) := by decide +kernel
theorem dP_more_100 : decode cP_more 100 = .ok (.aload_n 0, 1) := by decide +kernel
theorem dP_more_101 : decode cP_more 101 = .ok (.iload_n 2, 1) := by decide +kernel
theorem dP_more_102 : decode cP_more 102 = .ok (.invokevirtual 235, 3) := by decide +kernel
theorem dP_more_105 : decode cP_more 105 = .ok (.goto 129, 3) := by decide +kernel
theorem dP_more_108 : decode cP_more 108 = .ok (.aload_n 0, 1) := by decide +kernel
theorem dP_more_109 : decode cP_more 109 = .ok (.getfield 21, 3) := by decide +kernel
theorem dP_more_112 : decode cP_more 112 = .ok (.aload_n 0, 1) := by decide +kernel
theorem dP_more_113 : decode cP_more 113 = .ok (.getfield 10, 3) := by decide +kernel
theorem dP_more_116 : decode cP_more 116 = .ok (.iconst 2, 1) := by decide +kernel
theorem dP_more_117 : decode cP_more 117 = .ok (.invokevirtual 211, 3) := by decide +kernel
theorem dP_more_120 : decode cP_more 120 = .ok (.iload_n 2, 1) := by decide +kernel
theorem dP_more_121 : decode cP_more 121 = .ok (.bipush 6, 2) := by decide +kernel
theorem dP_more_123 : decode cP_more 123 = .ok (.if_icmp .ne 7, 3) := by decide +kernel
theorem dP_more_126 : decode cP_more 126 = .ok (.iconst 0, 1) := by decide +kernel
theorem dP_more_127 : decode cP_more 127 = .ok (.goto 11, 3) := by decide +kernel
theorem dP_more_130 : decode cP_more 130 = .ok (.aload_n 0, 1) := by decide +kernel
theorem dP_more_131 : decode cP_more 131 = .ok (.getfield 10, 3) := by decide +kernel
theorem dP_more_134 : decode cP_more 134 = .ok (.iload_n 2, 1) := by decide +kernel
theorem dP_more_135 : decode cP_more 135 = .ok (.invokevirtual 125, 3) := by decide +kernel
theorem dP_more_138 : decode cP_more 138 = .ok (.invokevirtual 214, 3) := by decide +kernel
theorem dP_more_141 : decode cP_more 141 = .ok (.goto 93, 3) := by decide +kernel
theorem dP_more_144 : decode cP_more 144 = .ok (.aload_n 0, 1) := by decide +kernel
theorem dP_more_145 : decode cP_more 145 = .ok (.iload_n 2, 1) := by decide +kernel
theorem dP_more_146 : decode cP_more 146 = .ok (.invokevirtual 238, 3) := by decide +kernel
theorem dP_more_149 : decode cP_more 149 = .ok (.goto 85, 3) := by decide +kernel
theorem dP_more_152 : decode cP_more 152 = .ok (.aload_n 0, 1) := by decide +kernel
theorem dP_more_153 : decode cP_more 153 = .ok (.iload_n 2, 1) := by decide +kernel
theorem dP_more_154 : decode cP_more 154 = .ok (.invokevirtual 241, 3) := by decide +kernel
theorem dP_more_157 : decode cP_more 157 = .ok (.goto 77, 3) := by decide +kernel
theorem dP_more_160 : decode cP_more 160 = .ok (.aload_n 0, 1) := by decide +kernel
theorem dP_more_161 : decode cP_more 161 = .ok (.getfield 10, 3) := by decide +kernel
theorem dP_more_164 : decode cP_more 164 = .ok (.iconst 0, 1) := by decide +kernel
theorem dP_more_165 : decode cP_more 165 = .ok (.iconst 0, 1) := by decide +kernel
theorem dP_more_166 : decode cP_more 166 = .ok (.aload_n 0, 1) := by decide +kernel
theorem dP_more_167 : decode cP_more 167 = .ok (.getfield 20, 3) := by decide +kernel
theorem dP_more_170 : decode cP_more 170 = .ok (.iconst 0, 1) := by decide +kernel
theorem dP_more_171 : decode cP_more 171 = .ok (.iaload, 1) := by decide +kernel
theorem dP_more_172 : decode cP_more 172 = .ok (.iconst 0, 1) := by decide +kernel
theorem dP_more_173 : decode cP_more 173 = .ok (.invokestatic 180, 3) := by decide +kernel
theorem dP_more_176 : decode cP_more 176 = .ok (.invokevirtual 190, 3) := by decide +kernel
theorem dP_more_179 : decode cP_more 179 = .ok (.goto 55, 3) := by decide +kernel
theorem dP_more_182 : decode cP_more 182 = .ok (.aload_n 0, 1) := by decide +kernel
theorem dP_more_183 : decode cP_more 183 = .ok (.getfield 20, 3) := by decide +kernel
theorem dP_more_186 : decode cP_more 186 = .ok (.bipush 21, 2) := by decide +kernel
theorem dP_more_188 : decode cP_more 188 = .ok (.aload_n 0, 1) := by decide +kernel
theorem dP_more_189 : decode cP_more 189 = .ok (.invokevirtual 205, 3) := by decide +kernel
theorem dP_more_192 : decode cP_more 192 = .ok (.iastore, 1) := by decide +kernel
theorem dP_more_193 : decode cP_more 193 = .ok (.aload_n 0, 1) := by decide +kernel
theorem dP_more_194 : decode cP_more 194 = .ok (.getfield 20, 3) := by decide +kernel
theorem dP_more_197 : decode cP_more 197 = .ok (.bipush 22, 2) := by decide +kernel
theorem dP_more_199 : decode cP_more 199 = .ok (.aload_n 0, 1) := by decide +kernel
theorem dP_more_200 : decode cP_more 200 = .ok (.getfield 20, 3) := by decide +kernel
theorem dP_more_203 : decode cP_more 203 = .ok (.bipush 23, 2) := by decide +kernel
theorem dP_more_205 : decode cP_more 205 = .ok (.iaload, 1) := by decide +kernel
theorem dP_more_206 : decode cP_more 206 = .ok (.iastore, 1) := by decide +kernel
theorem dP_more_207 : decode cP_more 207 = .ok (.goto 27, 3) := by decide +kernel
theorem dP_more_210 : decode cP_more 210 = .ok (.aload_n 0, 1) := by decide +kernel
theorem dP_more_211 : decode cP_more 211 = .ok (.getfield 20, 3) := by decide +kernel
theorem dP_more_214 : decode cP_more 214 = .ok (.bipush 24, 2) := by decide +kernel
theorem dP_more_216 : decode cP_more 216 = .ok (.iconst 0, 1) := by decide +kernel
theorem dP_more_217 : decode cP_more 217 = .ok (.iload_n 2, 1) := by decide +kernel
theorem dP_more_218 : decode cP_more 218 = .ok (.iconst 3, 1) := by decide +kernel
theorem dP_more_219 : decode cP_more 219 = .ok (.iand, 1) := by decide +kernel
theorem dP_more_220 : decode cP_more 220 = .ok (.iconst 1, 1) := by decide +kernel
theorem dP_more_221 : decode cP_more 221 = .ok (.isub, 1) := by decide +kernel
theorem dP_more_222 : decode cP_more 222 = .ok (.invokestatic 244, 3) := by decide +kernel
theorem dP_more_225 : decode cP_more 225 = .ok (.iastore, 1) := by decide +kernel
theorem dP_more_226 : decode cP_more 226 = .ok (.goto 8, 3) := by decide +kernel
theorem dP_more_229 : decode cP_more 229 = .ok (.aload_n 0, 1) := by decide +kernel
theorem dP_more_230 : decode cP_more 230 = .ok (.iload_n 2, 1) := by decide +kernel
theorem dP_more_231 : decode cP_more 231 = .ok (.invokevirtual 249, 3) := by decide +kernel
theorem dP_more_234 : decode cP_more 234 = .ok (.return_, 1) := by decide +kernel
theorem dP_takeFromPort_0 : decode cP_takeFromPort 0 = .ok (.aload_n 0, 1) := by decide +kernel
theorem dP_takeFromPort_1 : decode cP_takeFromPort 1 = .ok (.getfield 21, 3) := by decide +kernel
theorem dP_takeFromPort_4 : decode cP_takeFromPort 4 = .ok (.aload_n 0, 1) := by decide +kernel
theorem dP_takeFromPort_5 : decode cP_takeFromPort 5 = .ok (.getfield 10, 3) := by decide +kernel
theorem dP_takeFromPort_8 : decode cP_takeFromPort 8 = .ok (.iconst 2, 1) := by decide +kernel
theorem dP_takeFromPort_9 : decode cP_takeFromPort 9 = .ok (.invokevirtual 211, 3) := by decide +kernel
theorem dP_takeFromPort_12 : decode cP_takeFromPort 12 = .ok (.invokevirtual 217, 3) := by decide +kernel
theorem dP_takeFromPort_15 : decode cP_takeFromPort 15 = .ok (.istore_n 2, 1) := by decide +kernel
theorem dP_takeFromPort_16 : decode cP_takeFromPort 16 = .ok (.aload_n 0, 1) := by decide +kernel
theorem dP_takeFromPort_17 : decode cP_takeFromPort 17 = .ok (.iconst 1, 1) := by decide +kernel
theorem dP_takeFromPort_18 : decode cP_takeFromPort 18 = .ok (.iload_n 2, 1) := by decide +kernel
theorem dP_takeFromPort_19 : decode cP_takeFromPort 19 = .ok (.invokestatic 252, 3) := by decide +kernel
theorem dP_takeFromPort_22 : decode cP_takeFromPort 22 = .ok (.invokevirtual 174, 3) := by decide +kernel
theorem dP_takeFromPort_25 : decode cP_takeFromPort 25 = .ok (.iload_n 1, 1) := by decide +kernel
theorem dP_takeFromPort_26 : decode cP_takeFromPort 26 = .ok (.bipush 6, 2) := by decide +kernel
theorem dP_takeFromPort_28 : decode cP_takeFromPort 28 = .ok (.if_icmp .eq 12, 3) := by decide +kernel
theorem dP_takeFromPort_31 : decode cP_takeFromPort 31 = .ok (.aload_n 0, 1) := by decide +kernel
theorem dP_takeFromPort_32 : decode cP_takeFromPort 32 = .ok (.getfield 10, 3) := by decide +kernel
theorem dP_takeFromPort_35 : decode cP_takeFromPort 35 = .ok (.iload_n 1, 1) := by decide +kernel
theorem dP_takeFromPort_36 : decode cP_takeFromPort 36 = .ok (.iload_n 2, 1) := by decide +kernel
theorem dP_takeFromPort_37 : decode cP_takeFromPort 37 = .ok (.invokevirtual 128, 3) := by decide +kernel
theorem dP_takeFromPort_40 : decode cP_takeFromPort 40 = .ok (.return_, 1) := by decide +kernel
theorem dP_sumWithCarry_0 : decode cP_sumWithCarry 0 = .ok (.aload_n 0, 1) := by decide +kernel
theorem dP_sumWithCarry_1 : decode cP_sumWithCarry 1 = .ok (.getfield 10, 3) := by decide +kernel
theorem dP_sumWithCarry_4 : decode cP_sumWithCarry 4 = .ok (.iload_n 1, 1) := by decide +kernel
theorem dP_sumWithCarry_5 : decode cP_sumWithCarry 5 = .ok (.iconst 1, 1) := by decide +kernel
theorem dP_sumWithCarry_6 : decode cP_sumWithCarry 6 = .ok (.ishr, 1) := by decide +kernel
theorem dP_sumWithCarry_7 : decode cP_sumWithCarry 7 = .ok (.invokevirtual 151, 3) := by decide +kernel
theorem dP_sumWithCarry_10 : decode cP_sumWithCarry 10 = .ok (.istore_n 2, 1) := by decide +kernel
theorem dP_sumWithCarry_11 : decode cP_sumWithCarry 11 = .ok (.iload_n 1, 1) := by decide +kernel
theorem dP_sumWithCarry_12 : decode cP_sumWithCarry 12 = .ok (.iconst 1, 1) := by decide +kernel
theorem dP_sumWithCarry_13 : decode cP_sumWithCarry 13 = .ok (.iand, 1) := by decide +kernel
theorem dP_sumWithCarry_14 : decode cP_sumWithCarry 14 = .ok (.iconst 1, 1) := by decide +kernel
theorem dP_sumWithCarry_15 : decode cP_sumWithCarry 15 = .ok (.if_icmp .ne 21, 3) := by decide +kernel
theorem dP_sumWithCarry_18 : decode cP_sumWithCarry 18 = .ok (.aload_n 0, 1) := by decide +kernel
theorem dP_sumWithCarry_19 : decode cP_sumWithCarry 19 = .ok (.getfield 10, 3) := by decide +kernel
theorem dP_sumWithCarry_22 : decode cP_sumWithCarry 22 = .ok (.invokevirtual 109, 3) := by decide +kernel
theorem dP_sumWithCarry_25 : decode cP_sumWithCarry 25 = .ok (.iload_n 2, 1) := by decide +kernel
theorem dP_sumWithCarry_26 : decode cP_sumWithCarry 26 = .ok (.aload_n 0, 1) := by decide +kernel
theorem dP_sumWithCarry_27 : decode cP_sumWithCarry 27 = .ok (.invokevirtual 193, 3) := by decide +kernel
theorem dP_sumWithCarry_30 : decode cP_sumWithCarry 30 = .ok (.invokestatic 167, 3) := by decide +kernel
theorem dP_sumWithCarry_33 : decode cP_sumWithCarry 33 = .ok (.goto 18, 3) := by decide +kernel
theorem dP_sumWithCarry_36 : decode cP_sumWithCarry 36 = .ok (.aload_n 0, 1) := by decide +kernel
theorem dP_sumWithCarry_37 : decode cP_sumWithCarry 37 = .ok (.getfield 10, 3) := by decide +kernel
theorem dP_sumWithCarry_40 : decode cP_sumWithCarry 40 = .ok (.invokevirtual 109, 3) := by decide +kernel
theorem dP_sumWithCarry_43 : decode cP_sumWithCarry 43 = .ok (.iload_n 2, 1) := by decide +kernel
theorem dP_sumWithCarry_44 : decode cP_sumWithCarry 44 = .ok (.aload_n 0, 1) := by decide +kernel
theorem dP_sumWithCarry_45 : decode cP_sumWithCarry 45 = .ok (.invokevirtual 193, 3) := by decide +kernel
theorem dP_sumWithCarry_48 : decode cP_sumWithCarry 48 = .ok (.invokestatic 255, 3) := by decide +kernel
theorem dP_sumWithCarry_51 : decode cP_sumWithCarry 51 = .ok (.istore_n 3, 1) := by decide +kernel
theorem dP_sumWithCarry_52 : decode cP_sumWithCarry 52 = .ok (.aload_n 0, 1) := by decide +kernel
theorem dP_sumWithCarry_53 : decode cP_sumWithCarry 53 = .ok (.getfield 20, 3) := by decide +kernel
theorem dP_sumWithCarry_56 : decode cP_sumWithCarry 56 = .ok (.iconst 1, 1) := by decide +kernel
theorem dP_sumWithCarry_57 : decode cP_sumWithCarry 57 = .ok (.iload_n 3, 1) := by decide +kernel
theorem dP_sumWithCarry_58 : decode cP_sumWithCarry 58 = .ok (.sipush 255, 3) := by decide +kernel
theorem dP_sumWithCarry_61 : decode cP_sumWithCarry 61 = .ok (.iand, 1) := by decide +kernel
theorem dP_sumWithCarry_62 : decode cP_sumWithCarry 62 = .ok (.iastore, 1) := by decide +kernel
theorem dP_sumWithCarry_63 : decode cP_sumWithCarry 63 = .ok (.aload_n 0, 1) := by decide +kernel
theorem dP_sumWithCarry_64 : decode cP_sumWithCarry 64 = .ok (.getfield 10, 3) := by decide +kernel
theorem dP_sumWithCarry_67 : decode cP_sumWithCarry 67 = .ok (.iload_n 3, 1) := by decide +kernel
theorem dP_sumWithCarry_68 : decode cP_sumWithCarry 68 = .ok (.bipush 8, 2) := by decide +kernel
theorem dP_sumWithCarry_70 : decode cP_sumWithCarry 70 = .ok (.ishr, 1) := by decide +kernel
theorem dP_sumWithCarry_71 : decode cP_sumWithCarry 71 = .ok (.invokevirtual 171, 3) := by decide +kernel
theorem dP_sumWithCarry_74 : decode cP_sumWithCarry 74 = .ok (.return_, 1) := by decide +kernel
theorem dP_passPair_0 : decode cP_passPair 0 = .ok (.aload_n 0, 1) := by decide +kernel
theorem dP_passPair_1 : decode cP_passPair 1 = .ok (.invokevirtual 139, 3) := by decide +kernel
theorem dP_passPair_4 : decode cP_passPair 4 = .ok (.istore_n 2, 1) := by decide +kernel
theorem dP_passPair_5 : decode cP_passPair 5 = .ok (.iload_n 1, 1) := by decide +kernel
theorem dP_passPair_6 : decode cP_passPair 6 = .ok (.iconst 1, 1) := by decide +kernel
theorem dP_passPair_7 : decode cP_passPair 7 = .ok (.iand, 1) := by decide +kernel
theorem dP_passPair_8 : decode cP_passPair 8 = .ok (.iconst 1, 1) := by decide +kernel
theorem dP_passPair_9 : decode cP_passPair 9 = .ok (.if_icmp .ne 21, 3) := by decide +kernel
theorem dP_passPair_12 : decode cP_passPair 12 = .ok (.aload_n 0, 1) := by decide +kernel
theorem dP_passPair_13 : decode cP_passPair 13 = .ok (.getfield 10, 3) := by decide +kernel
theorem dP_passPair_16 : decode cP_passPair 16 = .ok (.iload_n 1, 1) := by decide +kernel
theorem dP_passPair_17 : decode cP_passPair 17 = .ok (.iconst 1, 1) := by decide +kernel
theorem dP_passPair_18 : decode cP_passPair 18 = .ok (.ishr, 1) := by decide +kernel
theorem dP_passPair_19 : decode cP_passPair 19 = .ok (.aload_n 0, 1) := by decide +kernel
theorem dP_passPair_20 : decode cP_passPair 20 = .ok (.iload_n 2, 1) := by decide +kernel
theorem dP_passPair_21 : decode cP_passPair 21 = .ok (.invokevirtual 103, 3) := by decide +kernel
theorem dP_passPair_24 : decode cP_passPair 24 = .ok (.invokevirtual 142, 3) := by decide +kernel
theorem dP_passPair_27 : decode cP_passPair 27 = .ok (.goto 18, 3) := by decide +kernel
theorem dP_passPair_30 : decode cP_passPair 30 = .ok (.aload_n 0, 1) := by decide +kernel
theorem dP_passPair_31 : decode cP_passPair 31 = .ok (.iload_n 2, 1) := by decide +kernel
theorem dP_passPair_32 : decode cP_passPair 32 = .ok (.aload_n 0, 1) := by decide +kernel
theorem dP_passPair_33 : decode cP_passPair 33 = .ok (.getfield 10, 3) := by decide +kernel
theorem dP_passPair_36 : decode cP_passPair 36 = .ok (.iload_n 1, 1) := by decide +kernel
theorem dP_passPair_37 : decode cP_passPair 37 = .ok (.iconst 1, 1) := by decide +kernel
theorem dP_passPair_38 : decode cP_passPair 38 = .ok (.ishr, 1) := by decide +kernel
theorem dP_passPair_39 : decode cP_passPair 39 = .ok (.invokevirtual 151, 3) := by decide +kernel
theorem dP_passPair_42 : decode cP_passPair 42 = .ok (.invokevirtual 177, 3) := by decide +kernel
theorem dP_passPair_45 : decode cP_passPair 45 = .ok (.return_, 1) := by decide +kernel
theorem dP_doSpecial_0 : decode cP_doSpecial 0 = .ok (.iload_n 1, 1) := by decide +kernel
theorem dP_doSpecial_1 : decode cP_doSpecial 1 = .ok (.tableswitch 135 0 5 #[39, 55, 71, 71, 118, 118], 39) := by decide +kernel
theorem dP_doSpecial_40 : decode cP_doSpecial 40 = .ok (.aload_n 0, 1) := by decide +kernel
theorem dP_doSpecial_41 : decode cP_doSpecial 41 = .ok (.getfield 20, 3) := by decide +kernel
theorem dP_doSpecial_44 : decode cP_doSpecial 44 = .ok (.bipush 16, 2) := by decide +kernel
theorem dP_doSpecial_46 : decode cP_doSpecial 46 = .ok (.aload_n 0, 1) := by decide +kernel
theorem dP_doSpecial_47 : decode cP_doSpecial 47 = .ok (.getfield 20, 3) := by decide +kernel
theorem dP_doSpecial_50 : decode cP_doSpecial 50 = .ok (.iconst 0, 1) := by decide +kernel
theorem dP_doSpecial_51 : decode cP_doSpecial 51 = .ok (.iaload, 1) := by decide +kernel
theorem dP_doSpecial_52 : decode cP_doSpecial 52 = .ok (.iastore, 1) := by decide +kernel
theorem dP_doSpecial_53 : decode cP_doSpecial 53 = .ok (.goto 83, 3) := by decide +kernel
theorem dP_doSpecial_56 : decode cP_doSpecial 56 = .ok (.aload_n 0, 1) := by decide +kernel
theorem dP_doSpecial_57 : decode cP_doSpecial 57 = .ok (.getfield 20, 3) := by decide +kernel
theorem dP_doSpecial_60 : decode cP_doSpecial 60 = .ok (.bipush 17, 2) := by decide +kernel
theorem dP_doSpecial_62 : decode cP_doSpecial 62 = .ok (.aload_n 0, 1) := by decide +kernel
theorem dP_doSpecial_63 : decode cP_doSpecial 63 = .ok (.getfield 20, 3) := by decide +kernel
theorem dP_doSpecial_66 : decode cP_doSpecial 66 = .ok (.iconst 0, 1) := by decide +kernel
theorem dP_doSpecial_67 : decode cP_doSpecial 67 = .ok (.iaload, 1) := by decide +kernel
theorem dP_doSpecial_68 : decode cP_doSpecial 68 = .ok (.iastore, 1) := by decide +kernel
theorem dP_doSpecial_69 : decode cP_doSpecial 69 = .ok (.goto 67, 3) := by decide +kernel
theorem dP_doSpecial_72 : decode cP_doSpecial 72 = .ok (.aload_n 0, 1) := by decide +kernel
theorem dP_doSpecial_73 : decode cP_doSpecial 73 = .ok (.getfield 20, 3) := by decide +kernel
theorem dP_doSpecial_76 : decode cP_doSpecial 76 = .ok (.iload_n 1, 1) := by decide +kernel
theorem dP_doSpecial_77 : decode cP_doSpecial 77 = .ok (.iconst 2, 1) := by decide +kernel
theorem dP_doSpecial_78 : decode cP_doSpecial 78 = .ok (.if_icmp .ne 8, 3) := by decide +kernel
theorem dP_doSpecial_81 : decode cP_doSpecial 81 = .ok (.bipush 16, 2) := by decide +kernel
theorem dP_doSpecial_83 : decode cP_doSpecial 83 = .ok (.goto 5, 3) := by decide +kernel
theorem dP_doSpecial_86 : decode cP_doSpecial 86 = .ok (.bipush 17, 2) := by decide +kernel
theorem dP_doSpecial_88 : decode cP_doSpecial 88 = .ok (.iaload, 1) := by decide +kernel
theorem dP_doSpecial_89 : decode cP_doSpecial 89 = .ok (.istore_n 2, 1) := by decide +kernel
theorem dP_doSpecial_90 : decode cP_doSpecial 90 = .ok (.aload_n 0, 1) := by decide +kernel
theorem dP_doSpecial_91 : decode cP_doSpecial 91 = .ok (.getfield 20, 3) := by decide +kernel
theorem dP_doSpecial_94 : decode cP_doSpecial 94 = .ok (.iconst 0, 1) := by decide +kernel
theorem dP_doSpecial_95 : decode cP_doSpecial 95 = .ok (.iload_n 2, 1) := by decide +kernel
theorem dP_doSpecial_96 : decode cP_doSpecial 96 = .ok (.iastore, 1) := by decide +kernel
theorem dP_doSpecial_97 : decode cP_doSpecial 97 = .ok (.aload_n 0, 1) := by decide +kernel
theorem dP_doSpecial_98 : decode cP_doSpecial 98 = .ok (.iconst 1, 1) := by decide +kernel
theorem dP_doSpecial_99 : decode cP_doSpecial 99 = .ok (.iload_n 2, 1) := by decide +kernel
theorem dP_doSpecial_100 : decode cP_doSpecial 100 = .ok (.invokestatic 258, 3) := by decide +kernel
theorem dP_doSpecial_103 : decode cP_doSpecial 103 = .ok (.aload_n 0, 1) := by decide +kernel
theorem dP_doSpecial_104 : decode cP_doSpecial 104 = .ok (.getfield 20, 3) := by decide +kernel
theorem dP_doSpecial_107 : decode cP_doSpecial 107 = .ok (.bipush 23, 2) := by decide +kernel
theorem dP_doSpecial_109 : decode cP_doSpecial 109 = .ok (.iaload, 1) := by decide +kernel
theorem dP_doSpecial_110 : decode cP_doSpecial 110 = .ok (.iconst 4, 1) := by decide +kernel
theorem dP_doSpecial_111 : decode cP_doSpecial 111 = .ok (.imul, 1) := by decide +kernel
theorem dP_doSpecial_112 : decode cP_doSpecial 112 = .ok (.ior, 1) := by decide +kernel
theorem dP_doSpecial_113 : decode cP_doSpecial 113 = .ok (.invokevirtual 174, 3) := by decide +kernel
theorem dP_doSpecial_116 : decode cP_doSpecial 116 = .ok (.goto 20, 3) := by decide +kernel
theorem dP_doSpecial_119 : decode cP_doSpecial 119 = .ok (.aload_n 0, 1) := by decide +kernel
theorem dP_doSpecial_120 : decode cP_doSpecial 120 = .ok (.iload_n 1, 1) := by decide +kernel
theorem dP_doSpecial_121 : decode cP_doSpecial 121 = .ok (.iconst 5, 1) := by decide +kernel
theorem dP_doSpecial_122 : decode cP_doSpecial 122 = .ok (.if_icmp .ne 7, 3) := by decide +kernel
theorem dP_doSpecial_125 : decode cP_doSpecial 125 = .ok (.iconst 1, 1) := by decide +kernel
theorem dP_doSpecial_126 : decode cP_doSpecial 126 = .ok (.goto 4, 3) := by decide +kernel
theorem dP_doSpecial_129 : decode cP_doSpecial 129 = .ok (.iconst 0, 1) := by decide +kernel
theorem dP_doSpecial_130 : decode cP_doSpecial 130 = .ok (.invokevirtual 261, 3) := by decide +kernel
theorem dP_doSpecial_133 : decode cP_doSpecial 133 = .ok (.goto 3, 3) := by decide +kernel
theorem dP_doSpecial_136 : decode cP_doSpecial 136 = .ok (.return_, 1) := by decide +kernel
theorem dP_turnTwelveBits_0 : decode cP_turnTwelveBits 0 = .ok (.aload_n 0, 1) := by decide +kernel
theorem dP_turnTwelveBits_1 : decode cP_turnTwelveBits 1 = .ok (.getfield 21, 3) := by decide +kernel
theorem dP_turnTwelveBits_4 : decode cP_turnTwelveBits 4 = .ok (.aload_n 0, 1) := by decide +kernel
theorem dP_turnTwelveBits_5 : decode cP_turnTwelveBits 5 = .ok (.getfield 10, 3) := by decide +kernel
theorem dP_turnTwelveBits_8 : decode cP_turnTwelveBits 8 = .ok (.invokevirtual 109, 3) := by decide +kernel
theorem dP_turnTwelveBits_11 : decode cP_turnTwelveBits 11 = .ok (.invokevirtual 119, 3) := by decide +kernel
theorem dP_turnTwelveBits_14 : decode cP_turnTwelveBits 14 = .ok (.istore_n 2, 1) := by decide +kernel
theorem dP_turnTwelveBits_15 : decode cP_turnTwelveBits 15 = .ok (.aload_n 0, 1) := by decide +kernel
theorem dP_turnTwelveBits_16 : decode cP_turnTwelveBits 16 = .ok (.getfield 20, 3) := by decide +kernel
theorem dP_turnTwelveBits_19 : decode cP_turnTwelveBits 19 = .ok (.iconst 0, 1) := by decide +kernel
theorem dP_turnTwelveBits_20 : decode cP_turnTwelveBits 20 = .ok (.iaload, 1) := by decide +kernel
theorem dP_turnTwelveBits_21 : decode cP_turnTwelveBits 21 = .ok (.bipush 15, 2) := by decide +kernel
theorem dP_turnTwelveBits_23 : decode cP_turnTwelveBits 23 = .ok (.iand, 1) := by decide +kernel
theorem dP_turnTwelveBits_24 : decode cP_turnTwelveBits 24 = .ok (.istore_n 3, 1) := by decide +kernel
theorem dP_turnTwelveBits_25 : decode cP_turnTwelveBits 25 = .ok (.aload_n 0, 1) := by decide +kernel
theorem dP_turnTwelveBits_26 : decode cP_turnTwelveBits 26 = .ok (.getfield 21, 3) := by decide +kernel
theorem dP_turnTwelveBits_29 : decode cP_turnTwelveBits 29 = .ok (.aload_n 0, 1) := by decide +kernel
theorem dP_turnTwelveBits_30 : decode cP_turnTwelveBits 30 = .ok (.getfield 10, 3) := by decide +kernel
theorem dP_turnTwelveBits_33 : decode cP_turnTwelveBits 33 = .ok (.invokevirtual 109, 3) := by decide +kernel
theorem dP_turnTwelveBits_36 : decode cP_turnTwelveBits 36 = .ok (.iload_n 1, 1) := by decide +kernel
theorem dP_turnTwelveBits_37 : decode cP_turnTwelveBits 37 = .ok (.ifCond .eq 11, 3) := by decide +kernel
theorem dP_turnTwelveBits_40 : decode cP_turnTwelveBits 40 = .ok (.iload_n 2, 1) := by decide +kernel
theorem dP_turnTwelveBits_41 : decode cP_turnTwelveBits 41 = .ok (.iconst 4, 1) := by decide +kernel
theorem dP_turnTwelveBits_42 : decode cP_turnTwelveBits 42 = .ok (.ishl, 1) := by decide +kernel
theorem dP_turnTwelveBits_43 : decode cP_turnTwelveBits 43 = .ok (.iload_n 3, 1) := by decide +kernel
theorem dP_turnTwelveBits_44 : decode cP_turnTwelveBits 44 = .ok (.ior, 1) := by decide +kernel
theorem dP_turnTwelveBits_45 : decode cP_turnTwelveBits 45 = .ok (.goto 10, 3) := by decide +kernel
theorem dP_turnTwelveBits_48 : decode cP_turnTwelveBits 48 = .ok (.iload_n 3, 1) := by decide +kernel
theorem dP_turnTwelveBits_49 : decode cP_turnTwelveBits 49 = .ok (.iconst 4, 1) := by decide +kernel
theorem dP_turnTwelveBits_50 : decode cP_turnTwelveBits 50 = .ok (.ishl, 1) := by decide +kernel
theorem dP_turnTwelveBits_51 : decode cP_turnTwelveBits 51 = .ok (.iload_n 2, 1) := by decide +kernel
theorem dP_turnTwelveBits_52 : decode cP_turnTwelveBits 52 = .ok (.iconst 4, 1) := by decide +kernel
theorem dP_turnTwelveBits_53 : decode cP_turnTwelveBits 53 = .ok (.ishr, 1) := by decide +kernel
theorem dP_turnTwelveBits_54 : decode cP_turnTwelveBits 54 = .ok (.ior, 1) := by decide +kernel
theorem dP_turnTwelveBits_55 : decode cP_turnTwelveBits 55 = .ok (.invokevirtual 122, 3) := by decide +kernel
theorem dP_turnTwelveBits_58 : decode cP_turnTwelveBits 58 = .ok (.aload_n 0, 1) := by decide +kernel
theorem dP_turnTwelveBits_59 : decode cP_turnTwelveBits 59 = .ok (.getfield 20, 3) := by decide +kernel
theorem dP_turnTwelveBits_62 : decode cP_turnTwelveBits 62 = .ok (.iconst 0, 1) := by decide +kernel
theorem dP_turnTwelveBits_63 : decode cP_turnTwelveBits 63 = .ok (.iaload, 1) := by decide +kernel
theorem dP_turnTwelveBits_64 : decode cP_turnTwelveBits 64 = .ok (.sipush 240, 3) := by decide +kernel
theorem dP_turnTwelveBits_67 : decode cP_turnTwelveBits 67 = .ok (.iand, 1) := by decide +kernel
theorem dP_turnTwelveBits_68 : decode cP_turnTwelveBits 68 = .ok (.iload_n 1, 1) := by decide +kernel
theorem dP_turnTwelveBits_69 : decode cP_turnTwelveBits 69 = .ok (.ifCond .eq 9, 3) := by decide +kernel
theorem dP_turnTwelveBits_72 : decode cP_turnTwelveBits 72 = .ok (.iload_n 2, 1) := by decide +kernel
theorem dP_turnTwelveBits_73 : decode cP_turnTwelveBits 73 = .ok (.iconst 4, 1) := by decide +kernel
theorem dP_turnTwelveBits_74 : decode cP_turnTwelveBits 74 = .ok (.ishr, 1) := by decide +kernel
theorem dP_turnTwelveBits_75 : decode cP_turnTwelveBits 75 = .ok (.goto 7, 3) := by decide +kernel
theorem dP_turnTwelveBits_78 : decode cP_turnTwelveBits 78 = .ok (.iload_n 2, 1) := by decide +kernel
theorem dP_turnTwelveBits_79 : decode cP_turnTwelveBits 79 = .ok (.bipush 15, 2) := by decide +kernel
theorem dP_turnTwelveBits_81 : decode cP_turnTwelveBits 81 = .ok (.iand, 1) := by decide +kernel
theorem dP_turnTwelveBits_82 : decode cP_turnTwelveBits 82 = .ok (.ior, 1) := by decide +kernel
theorem dP_turnTwelveBits_83 : decode cP_turnTwelveBits 83 = .ok (.istore 4, 2) := by decide +kernel
theorem dP_turnTwelveBits_85 : decode cP_turnTwelveBits 85 = .ok (.aload_n 0, 1) := by decide +kernel
theorem dP_turnTwelveBits_86 : decode cP_turnTwelveBits 86 = .ok (.getfield 20, 3) := by decide +kernel
theorem dP_turnTwelveBits_89 : decode cP_turnTwelveBits 89 = .ok (.iconst 0, 1) := by decide +kernel
theorem dP_turnTwelveBits_90 : decode cP_turnTwelveBits 90 = .ok (.iload 4, 2) := by decide +kernel
theorem dP_turnTwelveBits_92 : decode cP_turnTwelveBits 92 = .ok (.iastore, 1) := by decide +kernel
theorem dP_turnTwelveBits_93 : decode cP_turnTwelveBits 93 = .ok (.aload_n 0, 1) := by decide +kernel
theorem dP_turnTwelveBits_94 : decode cP_turnTwelveBits 94 = .ok (.iconst 1, 1) := by decide +kernel
theorem dP_turnTwelveBits_95 : decode cP_turnTwelveBits 95 = .ok (.iload 4, 2) := by decide +kernel
theorem dP_turnTwelveBits_97 : decode cP_turnTwelveBits 97 = .ok (.invokestatic 252, 3) := by decide +kernel
theorem dP_turnTwelveBits_100 : decode cP_turnTwelveBits 100 = .ok (.invokevirtual 174, 3) := by decide +kernel
theorem dP_turnTwelveBits_103 : decode cP_turnTwelveBits 103 = .ok (.return_, 1) := by decide +kernel
theorem dP_moveByte_0 : decode cP_moveByte 0 = .ok (.aload_n 0, 1) := by decide +kernel
theorem dP_moveByte_1 : decode cP_moveByte 1 = .ok (.getfield 21, 3) := by decide +kernel
theorem dP_moveByte_4 : decode cP_moveByte 4 = .ok (.aload_n 0, 1) := by decide +kernel
theorem dP_moveByte_5 : decode cP_moveByte 5 = .ok (.getfield 10, 3) := by decide +kernel
theorem dP_moveByte_8 : decode cP_moveByte 8 = .ok (.invokevirtual 109, 3) := by decide +kernel
theorem dP_moveByte_11 : decode cP_moveByte 11 = .ok (.invokevirtual 119, 3) := by decide +kernel
theorem dP_moveByte_14 : decode cP_moveByte 14 = .ok (.istore_n 2, 1) := by decide +kernel
theorem dP_moveByte_15 : decode cP_moveByte 15 = .ok (.aload_n 0, 1) := by decide +kernel
theorem dP_moveByte_16 : decode cP_moveByte 16 = .ok (.getfield 21, 3) := by decide +kernel
theorem dP_moveByte_19 : decode cP_moveByte 19 = .ok (.aload_n 0, 1) := by decide +kernel
theorem dP_moveByte_20 : decode cP_moveByte 20 = .ok (.getfield 10, 3) := by decide +kernel
theorem dP_moveByte_23 : decode cP_moveByte 23 = .ok (.iconst 4, 1) := by decide +kernel
theorem dP_moveByte_24 : decode cP_moveByte 24 = .ok (.invokevirtual 211, 3) := by decide +kernel
theorem dP_moveByte_27 : decode cP_moveByte 27 = .ok (.iload_n 2, 1) := by decide +kernel
theorem dP_moveByte_28 : decode cP_moveByte 28 = .ok (.invokevirtual 122, 3) := by decide +kernel
theorem dP_moveByte_31 : decode cP_moveByte 31 = .ok (.iload_n 1, 1) := by decide +kernel
theorem dP_moveByte_32 : decode cP_moveByte 32 = .ok (.iconst 1, 1) := by decide +kernel
theorem dP_moveByte_33 : decode cP_moveByte 33 = .ok (.iand, 1) := by decide +kernel
theorem dP_moveByte_34 : decode cP_moveByte 34 = .ok (.ifCond .ne 7, 3) := by decide +kernel
theorem dP_moveByte_37 : decode cP_moveByte 37 = .ok (.iconst 1, 1) := by decide +kernel
theorem dP_moveByte_38 : decode cP_moveByte 38 = .ok (.goto 4, 3) := by decide +kernel
theorem dP_moveByte_41 : decode cP_moveByte 41 = .ok (.iconst (-1), 1) := by decide +kernel
theorem dP_moveByte_42 : decode cP_moveByte 42 = .ok (.istore_n 3, 1) := by decide +kernel
theorem dP_moveByte_43 : decode cP_moveByte 43 = .ok (.aload_n 0, 1) := by decide +kernel
theorem dP_moveByte_44 : decode cP_moveByte 44 = .ok (.getfield 10, 3) := by decide +kernel
theorem dP_moveByte_47 : decode cP_moveByte 47 = .ok (.iconst 4, 1) := by decide +kernel
theorem dP_moveByte_48 : decode cP_moveByte 48 = .ok (.aload_n 0, 1) := by decide +kernel
theorem dP_moveByte_49 : decode cP_moveByte 49 = .ok (.getfield 10, 3) := by decide +kernel
theorem dP_moveByte_52 : decode cP_moveByte 52 = .ok (.iconst 4, 1) := by decide +kernel
theorem dP_moveByte_53 : decode cP_moveByte 53 = .ok (.invokevirtual 211, 3) := by decide +kernel
theorem dP_moveByte_56 : decode cP_moveByte 56 = .ok (.iload_n 3, 1) := by decide +kernel
theorem dP_moveByte_57 : decode cP_moveByte 57 = .ok (.iadd, 1) := by decide +kernel
theorem dP_moveByte_58 : decode cP_moveByte 58 = .ok (.invokevirtual 190, 3) := by decide +kernel
theorem dP_moveByte_61 : decode cP_moveByte 61 = .ok (.aload_n 0, 1) := by decide +kernel
theorem dP_moveByte_62 : decode cP_moveByte 62 = .ok (.iload_n 3, 1) := by decide +kernel
theorem dP_moveByte_63 : decode cP_moveByte 63 = .ok (.aload_n 0, 1) := by decide +kernel
theorem dP_moveByte_64 : decode cP_moveByte 64 = .ok (.getfield 20, 3) := by decide +kernel
theorem dP_moveByte_67 : decode cP_moveByte 67 = .ok (.iconst 0, 1) := by decide +kernel
theorem dP_moveByte_68 : decode cP_moveByte 68 = .ok (.iaload, 1) := by decide +kernel
theorem dP_moveByte_69 : decode cP_moveByte 69 = .ok (.iload_n 2, 1) := by decide +kernel
theorem dP_moveByte_70 : decode cP_moveByte 70 = .ok (.iadd, 1) := by decide +kernel
theorem dP_moveByte_71 : decode cP_moveByte 71 = .ok (.invokevirtual 265, 3) := by decide +kernel
theorem dP_moveByte_74 : decode cP_moveByte 74 = .ok (.istore 4, 2) := by decide +kernel
theorem dP_moveByte_76 : decode cP_moveByte 76 = .ok (.aload_n 0, 1) := by decide +kernel
theorem dP_moveByte_77 : decode cP_moveByte 77 = .ok (.sipush 193, 3) := by decide +kernel
theorem dP_moveByte_80 : decode cP_moveByte 80 = .ok (.iload 4, 2) := by decide +kernel
theorem dP_moveByte_82 : decode cP_moveByte 82 = .ok (.invokevirtual 174, 3) := by decide +kernel
theorem dP_moveByte_85 : decode cP_moveByte 85 = .ok (.iload_n 1, 1) := by decide +kernel
theorem dP_moveByte_86 : decode cP_moveByte 86 = .ok (.bipush 6, 2) := by decide +kernel
theorem dP_moveByte_88 : decode cP_moveByte 88 = .ok (.if_icmp .lt 16, 3) := by decide +kernel
theorem dP_moveByte_91 : decode cP_moveByte 91 = .ok (.iload 4, 2) := by decide +kernel
theorem dP_moveByte_93 : decode cP_moveByte 93 = .ok (.iconst 4, 1) := by decide +kernel
theorem dP_moveByte_94 : decode cP_moveByte 94 = .ok (.iand, 1) := by decide +kernel
theorem dP_moveByte_95 : decode cP_moveByte 95 = .ok (.ifCond .eq 9, 3) := by decide +kernel
theorem dP_moveByte_98 : decode cP_moveByte 98 = .ok (.aload_n 0, 1) := by decide +kernel
theorem dP_moveByte_99 : decode cP_moveByte 99 = .ok (.bipush (-2), 2) := by decide +kernel
theorem dP_moveByte_101 : decode cP_moveByte 101 = .ok (.invokevirtual 106, 3) := by decide +kernel
theorem dP_moveByte_104 : decode cP_moveByte 104 = .ok (.return_, 1) := by decide +kernel
theorem dP_lookAtByte_0 : decode cP_lookAtByte 0 = .ok (.aload_n 0, 1) := by decide +kernel
theorem dP_lookAtByte_1 : decode cP_lookAtByte 1 = .ok (.getfield 21, 3) := by decide +kernel
theorem dP_lookAtByte_4 : decode cP_lookAtByte 4 = .ok (.aload_n 0, 1) := by decide +kernel
theorem dP_lookAtByte_5 : decode cP_lookAtByte 5 = .ok (.getfield 10, 3) := by decide +kernel
theorem dP_lookAtByte_8 : decode cP_lookAtByte 8 = .ok (.invokevirtual 109, 3) := by decide +kernel
theorem dP_lookAtByte_11 : decode cP_lookAtByte 11 = .ok (.invokevirtual 119, 3) := by decide +kernel
theorem dP_lookAtByte_14 : decode cP_lookAtByte 14 = .ok (.istore_n 2, 1) := by decide +kernel
theorem dP_lookAtByte_15 : decode cP_lookAtByte 15 = .ok (.aload_n 0, 1) := by decide +kernel
theorem dP_lookAtByte_16 : decode cP_lookAtByte 16 = .ok (.getfield 20, 3) := by decide +kernel
theorem dP_lookAtByte_19 : decode cP_lookAtByte 19 = .ok (.iconst 0, 1) := by decide +kernel
theorem dP_lookAtByte_20 : decode cP_lookAtByte 20 = .ok (.iaload, 1) := by decide +kernel
theorem dP_lookAtByte_21 : decode cP_lookAtByte 21 = .ok (.iload_n 2, 1) := by decide +kernel
theorem dP_lookAtByte_22 : decode cP_lookAtByte 22 = .ok (.iconst 0, 1) := by decide +kernel
theorem dP_lookAtByte_23 : decode cP_lookAtByte 23 = .ok (.invokestatic 180, 3) := by decide +kernel
theorem dP_lookAtByte_26 : decode cP_lookAtByte 26 = .ok (.istore_n 3, 1) := by decide +kernel
theorem dP_lookAtByte_27 : decode cP_lookAtByte 27 = .ok (.iload_n 3, 1) := by decide +kernel
theorem dP_lookAtByte_28 : decode cP_lookAtByte 28 = .ok (.bipush 16, 2) := by decide +kernel
theorem dP_lookAtByte_30 : decode cP_lookAtByte 30 = .ok (.iand, 1) := by decide +kernel
theorem dP_lookAtByte_31 : decode cP_lookAtByte 31 = .ok (.ifCond .eq 7, 3) := by decide +kernel
theorem dP_lookAtByte_34 : decode cP_lookAtByte 34 = .ok (.iconst 1, 1) := by decide +kernel
theorem dP_lookAtByte_35 : decode cP_lookAtByte 35 = .ok (.goto 4, 3) := by decide +kernel
theorem dP_lookAtByte_38 : decode cP_lookAtByte 38 = .ok (.iconst 0, 1) := by decide +kernel
theorem dP_lookAtByte_39 : decode cP_lookAtByte 39 = .ok (.istore 4, 2) := by decide +kernel
theorem dP_lookAtByte_41 : decode cP_lookAtByte 41 = .ok (.aload_n 0, 1) := by decide +kernel
theorem dP_lookAtByte_42 : decode cP_lookAtByte 42 = .ok (.iload_n 1, 1) := by decide +kernel
theorem dP_lookAtByte_43 : decode cP_lookAtByte 43 = .ok (.iconst 1, 1) := by decide +kernel
theorem dP_lookAtByte_44 : decode cP_lookAtByte 44 = .ok (.iand, 1) := by decide +kernel
theorem dP_lookAtByte_45 : decode cP_lookAtByte 45 = .ok (.ifCond .ne 7, 3) := by decide +kernel
theorem dP_lookAtByte_48 : decode cP_lookAtByte 48 = .ok (.iconst 1, 1) := by decide +kernel
theorem dP_lookAtByte_49 : decode cP_lookAtByte 49 = .ok (.goto 4, 3) := by decide +kernel
theorem dP_lookAtByte_52 : decode cP_lookAtByte 52 = .ok (.iconst (-1), 1) := by decide +kernel
theorem dP_lookAtByte_53 : decode cP_lookAtByte 53 = .ok (.iload_n 3, 1) := by decide +kernel
theorem dP_lookAtByte_54 : decode cP_lookAtByte 54 = .ok (.bipush 8, 2) := by decide +kernel
theorem dP_lookAtByte_56 : decode cP_lookAtByte 56 = .ok (.ishr, 1) := by decide +kernel
theorem dP_lookAtByte_57 : decode cP_lookAtByte 57 = .ok (.iload 4, 2) := by decide +kernel
theorem dP_lookAtByte_59 : decode cP_lookAtByte 59 = .ok (.isub, 1) := by decide +kernel
theorem dP_lookAtByte_60 : decode cP_lookAtByte 60 = .ok (.invokevirtual 265, 3) := by decide +kernel
theorem dP_lookAtByte_63 : decode cP_lookAtByte 63 = .ok (.istore 5, 2) := by decide +kernel
theorem dP_lookAtByte_65 : decode cP_lookAtByte 65 = .ok (.aload_n 0, 1) := by decide +kernel
theorem dP_lookAtByte_66 : decode cP_lookAtByte 66 = .ok (.iconst 1, 1) := by decide +kernel
theorem dP_lookAtByte_67 : decode cP_lookAtByte 67 = .ok (.iload 5, 2) := by decide +kernel
theorem dP_lookAtByte_69 : decode cP_lookAtByte 69 = .ok (.iload_n 3, 1) := by decide +kernel
theorem dP_lookAtByte_70 : decode cP_lookAtByte 70 = .ok (.sipush 210, 3) := by decide +kernel
theorem dP_lookAtByte_73 : decode cP_lookAtByte 73 = .ok (.iand, 1) := by decide +kernel
theorem dP_lookAtByte_74 : decode cP_lookAtByte 74 = .ok (.ior, 1) := by decide +kernel
theorem dP_lookAtByte_75 : decode cP_lookAtByte 75 = .ok (.invokevirtual 174, 3) := by decide +kernel
theorem dP_lookAtByte_78 : decode cP_lookAtByte 78 = .ok (.iload_n 1, 1) := by decide +kernel
theorem dP_lookAtByte_79 : decode cP_lookAtByte 79 = .ok (.bipush 6, 2) := by decide +kernel
theorem dP_lookAtByte_81 : decode cP_lookAtByte 81 = .ok (.if_icmp .lt 23, 3) := by decide +kernel
theorem dP_lookAtByte_84 : decode cP_lookAtByte 84 = .ok (.iload 5, 2) := by decide +kernel
theorem dP_lookAtByte_86 : decode cP_lookAtByte 86 = .ok (.iconst 4, 1) := by decide +kernel
theorem dP_lookAtByte_87 : decode cP_lookAtByte 87 = .ok (.iand, 1) := by decide +kernel
theorem dP_lookAtByte_88 : decode cP_lookAtByte 88 = .ok (.ifCond .eq 16, 3) := by decide +kernel
theorem dP_lookAtByte_91 : decode cP_lookAtByte 91 = .ok (.iload_n 3, 1) := by decide +kernel
theorem dP_lookAtByte_92 : decode cP_lookAtByte 92 = .ok (.bipush 8, 2) := by decide +kernel
theorem dP_lookAtByte_94 : decode cP_lookAtByte 94 = .ok (.ishr, 1) := by decide +kernel
theorem dP_lookAtByte_95 : decode cP_lookAtByte 95 = .ok (.ifCond .eq 9, 3) := by decide +kernel
theorem dP_lookAtByte_98 : decode cP_lookAtByte 98 = .ok (.aload_n 0, 1) := by decide +kernel
theorem dP_lookAtByte_99 : decode cP_lookAtByte 99 = .ok (.bipush (-2), 2) := by decide +kernel
theorem dP_lookAtByte_101 : decode cP_lookAtByte 101 = .ok (.invokevirtual 106, 3) := by decide +kernel
theorem dP_lookAtByte_104 : decode cP_lookAtByte 104 = .ok (.return_, 1) := by decide +kernel
theorem dP_advance_0 : decode cP_advance 0 = .ok (.aload_n 0, 1) := by decide +kernel
theorem dP_advance_1 : decode cP_advance 1 = .ok (.getfield 10, 3) := by decide +kernel
theorem dP_advance_4 : decode cP_advance 4 = .ok (.aload_n 0, 1) := by decide +kernel
theorem dP_advance_5 : decode cP_advance 5 = .ok (.getfield 10, 3) := by decide +kernel
theorem dP_advance_8 : decode cP_advance 8 = .ok (.invokevirtual 109, 3) := by decide +kernel
theorem dP_advance_11 : decode cP_advance 11 = .ok (.iload_n 1, 1) := by decide +kernel
theorem dP_advance_12 : decode cP_advance 12 = .ok (.iadd, 1) := by decide +kernel
theorem dP_advance_13 : decode cP_advance 13 = .ok (.invokevirtual 171, 3) := by decide +kernel
theorem dP_advance_16 : decode cP_advance 16 = .ok (.aload_n 0, 1) := by decide +kernel
theorem dP_advance_17 : decode cP_advance 17 = .ok (.getfield 10, 3) := by decide +kernel
theorem dP_advance_20 : decode cP_advance 20 = .ok (.iconst 2, 1) := by decide +kernel
theorem dP_advance_21 : decode cP_advance 21 = .ok (.invokevirtual 211, 3) := by decide +kernel
theorem dP_advance_24 : decode cP_advance 24 = .ok (.iconst 1, 1) := by decide +kernel
theorem dP_advance_25 : decode cP_advance 25 = .ok (.isub, 1) := by decide +kernel
theorem dP_advance_26 : decode cP_advance 26 = .ok (.ldc 118, 2) := by decide +kernel
theorem dP_advance_28 : decode cP_advance 28 = .ok (.iand, 1) := by decide +kernel
theorem dP_advance_29 : decode cP_advance 29 = .ok (.istore_n 3, 1) := by decide +kernel
theorem dP_advance_30 : decode cP_advance 30 = .ok (.aload_n 0, 1) := by decide +kernel
theorem dP_advance_31 : decode cP_advance 31 = .ok (.getfield 10, 3) := by decide +kernel
theorem dP_advance_34 : decode cP_advance 34 = .ok (.iconst 2, 1) := by decide +kernel
theorem dP_advance_35 : decode cP_advance 35 = .ok (.iload_n 3, 1) := by decide +kernel
theorem dP_advance_36 : decode cP_advance 36 = .ok (.invokevirtual 190, 3) := by decide +kernel
theorem dP_advance_39 : decode cP_advance 39 = .ok (.iload_n 2, 1) := by decide +kernel
theorem dP_advance_40 : decode cP_advance 40 = .ok (.iconst 2, 1) := by decide +kernel
theorem dP_advance_41 : decode cP_advance 41 = .ok (.iand, 1) := by decide +kernel
theorem dP_advance_42 : decode cP_advance 42 = .ok (.iconst 4, 1) := by decide +kernel
theorem dP_advance_43 : decode cP_advance 43 = .ok (.ishl, 1) := by decide +kernel
theorem dP_advance_44 : decode cP_advance 44 = .ok (.iload_n 2, 1) := by decide +kernel
theorem dP_advance_45 : decode cP_advance 45 = .ok (.bipush 8, 2) := by decide +kernel
theorem dP_advance_47 : decode cP_advance 47 = .ok (.iand, 1) := by decide +kernel
theorem dP_advance_48 : decode cP_advance 48 = .ok (.ior, 1) := by decide +kernel
theorem dP_advance_49 : decode cP_advance 49 = .ok (.iload_n 3, 1) := by decide +kernel
theorem dP_advance_50 : decode cP_advance 50 = .ok (.ifCond .eq 7, 3) := by decide +kernel
theorem dP_advance_53 : decode cP_advance 53 = .ok (.iconst 4, 1) := by decide +kernel
theorem dP_advance_54 : decode cP_advance 54 = .ok (.goto 4, 3) := by decide +kernel
theorem dP_advance_57 : decode cP_advance 57 = .ok (.iconst 0, 1) := by decide +kernel
theorem dP_advance_58 : decode cP_advance 58 = .ok (.ior, 1) := by decide +kernel
theorem dP_advance_59 : decode cP_advance 59 = .ok (.ireturn, 1) := by decide +kernel
theorem dT_init_0 : decode cT_init 0 = .ok (.aload_n 0, 1) := by decide +kernel
theorem dT_init_1 : decode cT_init 1 = .ok (.invokespecial 1, 3) := by decide +kernel
theorem dT_init_4 : decode cT_init 4 = .ok (.aload_n 0, 1) := by decide +kernel
theorem dT_init_5 : decode cT_init 5 = .ok (.bipush 40, 2) := by decide +kernel
theorem dT_init_7 : decode cT_init 7 = .ok (.newarray .int, 2) := by decide +kernel
theorem dT_init_9 : decode cT_init 9 = .ok (.putfield 9, 3) := by decide +kernel
theorem dT_init_12 : decode cT_init 12 = .ok (.return_, 1) := by decide +kernel
theorem dT_append_0 : decode cT_append 0 = .ok (.iload_n 1, 1) := by decide +kernel
theorem dT_append_1 : decode cT_append 1 = .ok (.iconst 1, 1) := by decide +kernel
theorem dT_append_2 : decode cT_append 2 = .ok (.if_icmp .lt 26, 3) := by decide +kernel
theorem dT_append_5 : decode cT_append 5 = .ok (.iload_n 1, 1) := by decide +kernel
theorem dT_append_6 : decode cT_append 6 = .ok (.sipush 10000, 3) := by decide +kernel
theorem dT_append_9 : decode cT_append 9 = .ok (.if_icmp .gt 19, 3) := by decide +kernel
theorem dT_append_12 : decode cT_append 12 = .ok (.aload_n 0, 1) := by decide +kernel
theorem dT_append_13 : decode cT_append 13 = .ok (.getfield 13, 3) := by decide +kernel
theorem dT_append_16 : decode cT_append 16 = .ok (.bipush 40, 2) := by decide +kernel
theorem dT_append_18 : decode cT_append 18 = .ok (.if_icmp .ge 10, 3) := by decide +kernel
theorem dT_append_21 : decode cT_append 21 = .ok (.aload_n 0, 1) := by decide +kernel
theorem dT_append_22 : decode cT_append 22 = .ok (.getfield 17, 3) := by decide +kernel
theorem dT_append_25 : decode cT_append 25 = .ok (.ifCond .eq 5, 3) := by decide +kernel
theorem dT_append_28 : decode cT_append 28 = .ok (.iconst 0, 1) := by decide +kernel
theorem dT_append_29 : decode cT_append 29 = .ok (.ireturn, 1) := by decide +kernel
theorem dT_append_30 : decode cT_append 30 = .ok (.aload_n 0, 1) := by decide +kernel
theorem dT_append_31 : decode cT_append 31 = .ok (.getfield 9, 3) := by decide +kernel
theorem dT_append_34 : decode cT_append 34 = .ok (.aload_n 0, 1) := by decide +kernel
theorem dT_append_35 : decode cT_append 35 = .ok (.getfield 13, 3) := by decide +kernel
theorem dT_append_38 : decode cT_append 38 = .ok (.iload_n 1, 1) := by decide +kernel
theorem dT_append_39 : decode cT_append 39 = .ok (.aload_n 0, 1) := by decide +kernel
theorem dT_append_40 : decode cT_append 40 = .ok (.getfield 13, 3) := by decide +kernel
theorem dT_append_43 : decode cT_append 43 = .ok (.ifCond .ne 7, 3) := by decide +kernel
theorem dT_append_46 : decode cT_append 46 = .ok (.iconst 0, 1) := by decide +kernel
theorem dT_append_47 : decode cT_append 47 = .ok (.goto 14, 3) := by decide +kernel
theorem dT_append_50 : decode cT_append 50 = .ok (.aload_n 0, 1) := by decide +kernel
theorem dT_append_51 : decode cT_append 51 = .ok (.getfield 9, 3) := by decide +kernel
theorem dT_append_54 : decode cT_append 54 = .ok (.aload_n 0, 1) := by decide +kernel
theorem dT_append_55 : decode cT_append 55 = .ok (.getfield 13, 3) := by decide +kernel
theorem dT_append_58 : decode cT_append 58 = .ok (.iconst 1, 1) := by decide +kernel
theorem dT_append_59 : decode cT_append 59 = .ok (.isub, 1) := by decide +kernel
theorem dT_append_60 : decode cT_append 60 = .ok (.iaload, 1) := by decide +kernel
theorem dT_append_61 : decode cT_append 61 = .ok (.iadd, 1) := by decide +kernel
theorem dT_append_62 : decode cT_append 62 = .ok (.iastore, 1) := by decide +kernel
theorem dT_append_63 : decode cT_append 63 = .ok (.aload_n 0, 1) := by decide +kernel
theorem dT_append_64 : decode cT_append 64 = .ok (.dup, 1) := by decide +kernel
theorem dT_append_65 : decode cT_append 65 = .ok (.getfield 13, 3) := by decide +kernel
theorem dT_append_68 : decode cT_append 68 = .ok (.iconst 1, 1) := by decide +kernel
theorem dT_append_69 : decode cT_append 69 = .ok (.iadd, 1) := by decide +kernel
theorem dT_append_70 : decode cT_append 70 = .ok (.putfield 13, 3) := by decide +kernel
theorem dT_append_73 : decode cT_append 73 = .ok (.iconst 1, 1) := by decide +kernel
theorem dT_append_74 : decode cT_append 74 = .ok (.ireturn, 1) := by decide +kernel
theorem dT_command_0 : decode cT_command 0 = .ok (.iload_n 1, 1) := by decide +kernel
theorem dT_command_1 : decode cT_command 1 = .ok (.ifCond .lt 20, 3) := by decide +kernel
theorem dT_command_4 : decode cT_command 4 = .ok (.iload_n 1, 1) := by decide +kernel
theorem dT_command_5 : decode cT_command 5 = .ok (.iconst 2, 1) := by decide +kernel
theorem dT_command_6 : decode cT_command 6 = .ok (.if_icmp .gt 15, 3) := by decide +kernel
theorem dT_command_9 : decode cT_command 9 = .ok (.iload_n 1, 1) := by decide +kernel
theorem dT_command_10 : decode cT_command 10 = .ok (.iconst 1, 1) := by decide +kernel
theorem dT_command_11 : decode cT_command 11 = .ok (.if_icmp .ne 12, 3) := by decide +kernel
theorem dT_command_14 : decode cT_command 14 = .ok (.aload_n 0, 1) := by decide +kernel
theorem dT_command_15 : decode cT_command 15 = .ok (.getfield 13, 3) := by decide +kernel
theorem dT_command_18 : decode cT_command 18 = .ok (.ifCond .ne 5, 3) := by decide +kernel
theorem dT_command_21 : decode cT_command 21 = .ok (.iconst 0, 1) := by decide +kernel
theorem dT_command_22 : decode cT_command 22 = .ok (.ireturn, 1) := by decide +kernel
theorem dT_command_23 : decode cT_command 23 = .ok (.aload_n 0, 1) := by decide +kernel
theorem dT_command_24 : decode cT_command 24 = .ok (.iload_n 1, 1) := by decide +kernel
theorem dT_command_25 : decode cT_command 25 = .ok (.iconst 1, 1) := by decide +kernel
theorem dT_command_26 : decode cT_command 26 = .ok (.if_icmp .ne 7, 3) := by decide +kernel
theorem dT_command_29 : decode cT_command 29 = .ok (.iconst 1, 1) := by decide +kernel
theorem dT_command_30 : decode cT_command 30 = .ok (.goto 4, 3) := by decide +kernel
theorem dT_command_33 : decode cT_command 33 = .ok (.iconst 0, 1) := by decide +kernel
theorem dT_command_34 : decode cT_command 34 = .ok (.putfield 17, 3) := by decide +kernel
theorem dT_command_37 : decode cT_command 37 = .ok (.iload_n 1, 1) := by decide +kernel
theorem dT_command_38 : decode cT_command 38 = .ok (.ifCond .eq 13, 3) := by decide +kernel
theorem dT_command_41 : decode cT_command 41 = .ok (.aload_n 0, 1) := by decide +kernel
theorem dT_command_42 : decode cT_command 42 = .ok (.iconst 0, 1) := by decide +kernel
theorem dT_command_43 : decode cT_command 43 = .ok (.putfield 21, 3) := by decide +kernel
theorem dT_command_46 : decode cT_command 46 = .ok (.aload_n 0, 1) := by decide +kernel
theorem dT_command_47 : decode cT_command 47 = .ok (.iload_n 2, 1) := by decide +kernel
theorem dT_command_48 : decode cT_command 48 = .ok (.putfield 24, 3) := by decide +kernel
theorem dT_command_51 : decode cT_command 51 = .ok (.iload_n 1, 1) := by decide +kernel
theorem dT_command_52 : decode cT_command 52 = .ok (.iconst 2, 1) := by decide +kernel
theorem dT_command_53 : decode cT_command 53 = .ok (.if_icmp .ne 8, 3) := by decide +kernel
theorem dT_command_56 : decode cT_command 56 = .ok (.aload_n 0, 1) := by decide +kernel
theorem dT_command_57 : decode cT_command 57 = .ok (.iconst 0, 1) := by decide +kernel
theorem dT_command_58 : decode cT_command 58 = .ok (.putfield 13, 3) := by decide +kernel
theorem dT_command_61 : decode cT_command 61 = .ok (.iconst 1, 1) := by decide +kernel
theorem dT_command_62 : decode cT_command 62 = .ok (.ireturn, 1) := by decide +kernel
theorem dT_follow_0 : decode cT_follow 0 = .ok (.aload_n 0, 1) := by decide +kernel
theorem dT_follow_1 : decode cT_follow 1 = .ok (.getfield 17, 3) := by decide +kernel
theorem dT_follow_4 : decode cT_follow 4 = .ok (.ifCond .ne 4, 3) := by decide +kernel
theorem dT_follow_7 : decode cT_follow 7 = .ok (.return_, 1) := by decide +kernel
theorem dT_follow_8 : decode cT_follow 8 = .ok (.aload_n 0, 1) := by decide +kernel
theorem dT_follow_9 : decode cT_follow 9 = .ok (.getfield 21, 3) := by decide +kernel
theorem dT_follow_12 : decode cT_follow 12 = .ok (.aload_n 0, 1) := by decide +kernel
theorem dT_follow_13 : decode cT_follow 13 = .ok (.getfield 13, 3) := by decide +kernel
theorem dT_follow_16 : decode cT_follow 16 = .ok (.if_icmp .ge 34, 3) := by decide +kernel
theorem dT_follow_19 : decode cT_follow 19 = .ok (.aload_n 0, 1) := by decide +kernel
theorem dT_follow_20 : decode cT_follow 20 = .ok (.getfield 9, 3) := by decide +kernel
theorem dT_follow_23 : decode cT_follow 23 = .ok (.aload_n 0, 1) := by decide +kernel
theorem dT_follow_24 : decode cT_follow 24 = .ok (.getfield 21, 3) := by decide +kernel
theorem dT_follow_27 : decode cT_follow 27 = .ok (.iaload, 1) := by decide +kernel
theorem dT_follow_28 : decode cT_follow 28 = .ok (.iload_n 1, 1) := by decide +kernel
theorem dT_follow_29 : decode cT_follow 29 = .ok (.aload_n 0, 1) := by decide +kernel
theorem dT_follow_30 : decode cT_follow 30 = .ok (.getfield 24, 3) := by decide +kernel
theorem dT_follow_33 : decode cT_follow 33 = .ok (.isub, 1) := by decide +kernel
theorem dT_follow_34 : decode cT_follow 34 = .ok (.if_icmp .gt 16, 3) := by decide +kernel
theorem dT_follow_37 : decode cT_follow 37 = .ok (.aload_n 0, 1) := by decide +kernel
theorem dT_follow_38 : decode cT_follow 38 = .ok (.dup, 1) := by decide +kernel
theorem dT_follow_39 : decode cT_follow 39 = .ok (.getfield 21, 3) := by decide +kernel
theorem dT_follow_42 : decode cT_follow 42 = .ok (.iconst 1, 1) := by decide +kernel
theorem dT_follow_43 : decode cT_follow 43 = .ok (.iadd, 1) := by decide +kernel
theorem dT_follow_44 : decode cT_follow 44 = .ok (.putfield 21, 3) := by decide +kernel
theorem dT_follow_47 : decode cT_follow 47 = .ok (.goto (-39), 3) := by decide +kernel
theorem dT_follow_50 : decode cT_follow 50 = .ok (.aload_n 0, 1) := by decide +kernel
theorem dT_follow_51 : decode cT_follow 51 = .ok (.aload_n 0, 1) := by decide +kernel
theorem dT_follow_52 : decode cT_follow 52 = .ok (.getfield 21, 3) := by decide +kernel
theorem dT_follow_55 : decode cT_follow 55 = .ok (.aload_n 0, 1) := by decide +kernel
theorem dT_follow_56 : decode cT_follow 56 = .ok (.getfield 13, 3) := by decide +kernel
theorem dT_follow_59 : decode cT_follow 59 = .ok (.if_icmp .ge 7, 3) := by decide +kernel
theorem dT_follow_62 : decode cT_follow 62 = .ok (.iconst 1, 1) := by decide +kernel
theorem dT_follow_63 : decode cT_follow 63 = .ok (.goto 4, 3) := by decide +kernel
theorem dT_follow_66 : decode cT_follow 66 = .ok (.iconst 0, 1) := by decide +kernel
theorem dT_follow_67 : decode cT_follow 67 = .ok (.putfield 17, 3) := by decide +kernel
theorem dT_follow_70 : decode cT_follow 70 = .ok (.return_, 1) := by decide +kernel
theorem dT_level_0 : decode cT_level 0 = .ok (.aload_n 0, 1) := by decide +kernel
theorem dT_level_1 : decode cT_level 1 = .ok (.getfield 21, 3) := by decide +kernel
theorem dT_level_4 : decode cT_level 4 = .ok (.iconst 1, 1) := by decide +kernel
theorem dT_level_5 : decode cT_level 5 = .ok (.iand, 1) := by decide +kernel
theorem dT_level_6 : decode cT_level 6 = .ok (.ireturn, 1) := by decide +kernel
theorem dG_init_0 : decode cG_init 0 = .ok (.aload_n 0, 1) := by decide +kernel
theorem dG_init_1 : decode cG_init 1 = .ok (.invokespecial 1, 3) := by decide +kernel
theorem dG_init_4 : decode cG_init 4 = .ok (.aload_n 0, 1) := by decide +kernel
theorem dG_init_5 : decode cG_init 5 = .ok (.bipush 26, 2) := by decide +kernel
theorem dG_init_7 : decode cG_init 7 = .ok (.newarray .int, 2) := by decide +kernel
theorem dG_init_9 : decode cG_init 9 = .ok (.putfield 9, 3) := by decide +kernel
theorem dG_init_12 : decode cG_init 12 = .ok (.aload_n 0, 1) := by decide +kernel
theorem dG_init_13 : decode cG_init 13 = .ok (.bipush 6, 2) := by decide +kernel
theorem dG_init_15 : decode cG_init 15 = .ok (.putfield 13, 3) := by decide +kernel
theorem dG_init_18 : decode cG_init 18 = .ok (.return_, 1) := by decide +kernel
theorem dG_change_0 : decode cG_change 0 = .ok (.iload_n 1, 1) := by decide +kernel
theorem dG_change_1 : decode cG_change 1 = .ok (.ifCond .lt 24, 3) := by decide +kernel
theorem dG_change_4 : decode cG_change 4 = .ok (.iload_n 1, 1) := by decide +kernel
theorem dG_change_5 : decode cG_change 5 = .ok (.bipush 24, 2) := by decide +kernel
theorem dG_change_7 : decode cG_change 7 = .ok (.if_icmp .gt 18, 3) := by decide +kernel
theorem dG_change_10 : decode cG_change 10 = .ok (.iload_n 1, 1) := by decide +kernel
theorem dG_change_11 : decode cG_change 11 = .ok (.bipush 24, 2) := by decide +kernel
theorem dG_change_13 : decode cG_change 13 = .ok (.if_icmp .ne 14, 3) := by decide +kernel
theorem dG_change_16 : decode cG_change 16 = .ok (.iload_n 2, 1) := by decide +kernel
theorem dG_change_17 : decode cG_change 17 = .ok (.ifCond .lt 8, 3) := by decide +kernel
theorem dG_change_20 : decode cG_change 20 = .ok (.iload_n 2, 1) := by decide +kernel
theorem dG_change_21 : decode cG_change 21 = .ok (.iconst 2, 1) := by decide +kernel
theorem dG_change_22 : decode cG_change 22 = .ok (.if_icmp .le 5, 3) := by decide +kernel
theorem dG_change_25 : decode cG_change 25 = .ok (.iconst 0, 1) := by decide +kernel
theorem dG_change_26 : decode cG_change 26 = .ok (.ireturn, 1) := by decide +kernel
theorem dG_change_27 : decode cG_change 27 = .ok (.aload_n 0, 1) := by decide +kernel
theorem dG_change_28 : decode cG_change 28 = .ok (.getfield 9, 3) := by decide +kernel
theorem dG_change_31 : decode cG_change 31 = .ok (.iload_n 1, 1) := by decide +kernel
theorem dG_change_32 : decode cG_change 32 = .ok (.iload_n 2, 1) := by decide +kernel
theorem dG_change_33 : decode cG_change 33 = .ok (.iload_n 1, 1) := by decide +kernel
theorem dG_change_34 : decode cG_change 34 = .ok (.invokestatic 17, 3) := by decide +kernel
theorem dG_change_37 : decode cG_change 37 = .ok (.iand, 1) := by decide +kernel
theorem dG_change_38 : decode cG_change 38 = .ok (.iastore, 1) := by decide +kernel
theorem dG_change_39 : decode cG_change 39 = .ok (.iconst 1, 1) := by decide +kernel
theorem dG_change_40 : decode cG_change 40 = .ok (.ireturn, 1) := by decide +kernel
theorem dG_widest_0 : decode cG_widest 0 = .ok (.iload_n 0, 1) := by decide +kernel
theorem dG_widest_1 : decode cG_widest 1 = .ok (.bipush 18, 2) := by decide +kernel
theorem dG_widest_3 : decode cG_widest 3 = .ok (.if_icmp .ge 7, 3) := by decide +kernel
theorem dG_widest_6 : decode cG_widest 6 = .ok (.sipush 255, 3) := by decide +kernel
theorem dG_widest_9 : decode cG_widest 9 = .ok (.ireturn, 1) := by decide +kernel
theorem dG_widest_10 : decode cG_widest 10 = .ok (.iload_n 0, 1) := by decide +kernel
theorem dG_widest_11 : decode cG_widest 11 = .ok (.bipush 21, 2) := by decide +kernel
theorem dG_widest_13 : decode cG_widest 13 = .ok (.if_icmp .gt 6, 3) := by decide +kernel
theorem dG_widest_16 : decode cG_widest 16 = .ok (.ldc 21, 2) := by decide +kernel
theorem dG_widest_18 : decode cG_widest 18 = .ok (.ireturn, 1) := by decide +kernel
theorem dG_widest_19 : decode cG_widest 19 = .ok (.iload_n 0, 1) := by decide +kernel
theorem dG_widest_20 : decode cG_widest 20 = .ok (.bipush 24, 2) := by decide +kernel
theorem dG_widest_22 : decode cG_widest 22 = .ok (.if_icmp .ne 7, 3) := by decide +kernel
theorem dG_widest_25 : decode cG_widest 25 = .ok (.iconst 3, 1) := by decide +kernel
theorem dG_widest_26 : decode cG_widest 26 = .ok (.goto 4, 3) := by decide +kernel
theorem dG_widest_29 : decode cG_widest 29 = .ok (.iconst 1, 1) := by decide +kernel
theorem dG_widest_30 : decode cG_widest 30 = .ok (.ireturn, 1) := by decide +kernel
theorem dG_tell_0 : decode cG_tell 0 = .ok (.iload_n 1, 1) := by decide +kernel
theorem dG_tell_1 : decode cG_tell 1 = .ok (.ifCond .lt 9, 3) := by decide +kernel
theorem dG_tell_4 : decode cG_tell 4 = .ok (.iload_n 1, 1) := by decide +kernel
theorem dG_tell_5 : decode cG_tell 5 = .ok (.bipush 25, 2) := by decide +kernel
theorem dG_tell_7 : decode cG_tell 7 = .ok (.if_icmp .le 7, 3) := by decide +kernel
theorem dG_tell_10 : decode cG_tell 10 = .ok (.iconst (-1), 1) := by decide +kernel
theorem dG_tell_11 : decode cG_tell 11 = .ok (.goto 9, 3) := by decide +kernel
theorem dG_tell_14 : decode cG_tell 14 = .ok (.aload_n 0, 1) := by decide +kernel
theorem dG_tell_15 : decode cG_tell 15 = .ok (.getfield 9, 3) := by decide +kernel
theorem dG_tell_18 : decode cG_tell 18 = .ok (.iload_n 1, 1) := by decide +kernel
theorem dG_tell_19 : decode cG_tell 19 = .ok (.iaload, 1) := by decide +kernel
theorem dG_tell_20 : decode cG_tell 20 = .ok (.ireturn, 1) := by decide +kernel
theorem dG_joined_0 : decode cG_joined 0 = .ok (.aload_n 0, 1) := by decide +kernel
theorem dG_joined_1 : decode cG_joined 1 = .ok (.getfield 9, 3) := by decide +kernel
theorem dG_joined_4 : decode cG_joined 4 = .ok (.iload_n 1, 1) := by decide +kernel
theorem dG_joined_5 : decode cG_joined 5 = .ok (.iaload, 1) := by decide +kernel
theorem dG_joined_6 : decode cG_joined 6 = .ok (.bipush 8, 2) := by decide +kernel
theorem dG_joined_8 : decode cG_joined 8 = .ok (.ishl, 1) := by decide +kernel
theorem dG_joined_9 : decode cG_joined 9 = .ok (.aload_n 0, 1) := by decide +kernel
theorem dG_joined_10 : decode cG_joined 10 = .ok (.getfield 9, 3) := by decide +kernel
theorem dG_joined_13 : decode cG_joined 13 = .ok (.iload_n 1, 1) := by decide +kernel
theorem dG_joined_14 : decode cG_joined 14 = .ok (.iconst 1, 1) := by decide +kernel
theorem dG_joined_15 : decode cG_joined 15 = .ok (.iadd, 1) := by decide +kernel
theorem dG_joined_16 : decode cG_joined 16 = .ok (.iaload, 1) := by decide +kernel
theorem dG_joined_17 : decode cG_joined 17 = .ok (.ior, 1) := by decide +kernel
theorem dG_joined_18 : decode cG_joined 18 = .ok (.ireturn, 1) := by decide +kernel
theorem dG_split_0 : decode cG_split 0 = .ok (.aload_n 0, 1) := by decide +kernel
theorem dG_split_1 : decode cG_split 1 = .ok (.getfield 9, 3) := by decide +kernel
theorem dG_split_4 : decode cG_split 4 = .ok (.iload_n 1, 1) := by decide +kernel
theorem dG_split_5 : decode cG_split 5 = .ok (.iload_n 2, 1) := by decide +kernel
theorem dG_split_6 : decode cG_split 6 = .ok (.bipush 8, 2) := by decide +kernel
theorem dG_split_8 : decode cG_split 8 = .ok (.ishr, 1) := by decide +kernel
theorem dG_split_9 : decode cG_split 9 = .ok (.sipush 255, 3) := by decide +kernel
theorem dG_split_12 : decode cG_split 12 = .ok (.iand, 1) := by decide +kernel
theorem dG_split_13 : decode cG_split 13 = .ok (.iastore, 1) := by decide +kernel
theorem dG_split_14 : decode cG_split 14 = .ok (.aload_n 0, 1) := by decide +kernel
theorem dG_split_15 : decode cG_split 15 = .ok (.getfield 9, 3) := by decide +kernel
theorem dG_split_18 : decode cG_split 18 = .ok (.iload_n 1, 1) := by decide +kernel
theorem dG_split_19 : decode cG_split 19 = .ok (.iconst 1, 1) := by decide +kernel
theorem dG_split_20 : decode cG_split 20 = .ok (.iadd, 1) := by decide +kernel
theorem dG_split_21 : decode cG_split 21 = .ok (.iload_n 2, 1) := by decide +kernel
theorem dG_split_22 : decode cG_split 22 = .ok (.sipush 255, 3) := by decide +kernel
theorem dG_split_25 : decode cG_split 25 = .ok (.iand, 1) := by decide +kernel
theorem dG_split_26 : decode cG_split 26 = .ok (.iastore, 1) := by decide +kernel
theorem dG_split_27 : decode cG_split 27 = .ok (.return_, 1) := by decide +kernel
theorem dG_hl_0 : decode cG_hl 0 = .ok (.aload_n 0, 1) := by decide +kernel
theorem dG_hl_1 : decode cG_hl 1 = .ok (.getfield 13, 3) := by decide +kernel
theorem dG_hl_4 : decode cG_hl 4 = .ok (.bipush 6, 2) := by decide +kernel
theorem dG_hl_6 : decode cG_hl 6 = .ok (.if_icmp .ne 12, 3) := by decide +kernel
theorem dG_hl_9 : decode cG_hl 9 = .ok (.aload_n 0, 1) := by decide +kernel
theorem dG_hl_10 : decode cG_hl 10 = .ok (.bipush 6, 2) := by decide +kernel
theorem dG_hl_12 : decode cG_hl 12 = .ok (.invokevirtual 22, 3) := by decide +kernel
theorem dG_hl_15 : decode cG_hl 15 = .ok (.goto 12, 3) := by decide +kernel
theorem dG_hl_18 : decode cG_hl 18 = .ok (.aload_n 0, 1) := by decide +kernel
theorem dG_hl_19 : decode cG_hl 19 = .ok (.getfield 9, 3) := by decide +kernel
theorem dG_hl_22 : decode cG_hl 22 = .ok (.aload_n 0, 1) := by decide +kernel
theorem dG_hl_23 : decode cG_hl 23 = .ok (.getfield 13, 3) := by decide +kernel
theorem dG_hl_26 : decode cG_hl 26 = .ok (.iaload, 1) := by decide +kernel
theorem dG_hl_27 : decode cG_hl 27 = .ok (.ireturn, 1) := by decide +kernel
theorem dG_setHl_0 : decode cG_setHl 0 = .ok (.aload_n 0, 1) := by decide +kernel
theorem dG_setHl_1 : decode cG_setHl 1 = .ok (.getfield 13, 3) := by decide +kernel
theorem dG_setHl_4 : decode cG_setHl 4 = .ok (.bipush 6, 2) := by decide +kernel
theorem dG_setHl_6 : decode cG_setHl 6 = .ok (.if_icmp .ne 13, 3) := by decide +kernel
theorem dG_setHl_9 : decode cG_setHl 9 = .ok (.aload_n 0, 1) := by decide +kernel
theorem dG_setHl_10 : decode cG_setHl 10 = .ok (.bipush 6, 2) := by decide +kernel
theorem dG_setHl_12 : decode cG_setHl 12 = .ok (.iload_n 1, 1) := by decide +kernel
theorem dG_setHl_13 : decode cG_setHl 13 = .ok (.invokevirtual 25, 3) := by decide +kernel
theorem dG_setHl_16 : decode cG_setHl 16 = .ok (.goto 16, 3) := by decide +kernel
theorem dG_setHl_19 : decode cG_setHl 19 = .ok (.aload_n 0, 1) := by decide +kernel
theorem dG_setHl_20 : decode cG_setHl 20 = .ok (.getfield 9, 3) := by decide +kernel
theorem dG_setHl_23 : decode cG_setHl 23 = .ok (.aload_n 0, 1) := by decide +kernel
theorem dG_setHl_24 : decode cG_setHl 24 = .ok (.getfield 13, 3) := by decide +kernel
theorem dG_setHl_27 : decode cG_setHl 27 = .ok (.iload_n 1, 1) := by decide +kernel
theorem dG_setHl_28 : decode cG_setHl 28 = .ok (.ldc 21, 2) := by decide +kernel
theorem dG_setHl_30 : decode cG_setHl 30 = .ok (.iand, 1) := by decide +kernel
theorem dG_setHl_31 : decode cG_setHl 31 = .ok (.iastore, 1) := by decide +kernel
theorem dG_setHl_32 : decode cG_setHl 32 = .ok (.return_, 1) := by decide +kernel
theorem dG_pair_0 : decode cG_pair 0 = .ok (.iload_n 1, 1) := by decide +kernel
theorem dG_pair_1 : decode cG_pair 1 = .ok (.iconst 3, 1) := by decide +kernel
theorem dG_pair_2 : decode cG_pair 2 = .ok (.if_icmp .ne 11, 3) := by decide +kernel
theorem dG_pair_5 : decode cG_pair 5 = .ok (.aload_n 0, 1) := by decide +kernel
theorem dG_pair_6 : decode cG_pair 6 = .ok (.getfield 9, 3) := by decide +kernel
theorem dG_pair_9 : decode cG_pair 9 = .ok (.bipush 20, 2) := by decide +kernel
theorem dG_pair_11 : decode cG_pair 11 = .ok (.iaload, 1) := by decide +kernel
theorem dG_pair_12 : decode cG_pair 12 = .ok (.ireturn, 1) := by decide +kernel
theorem dG_pair_13 : decode cG_pair 13 = .ok (.iload_n 1, 1) := by decide +kernel
theorem dG_pair_14 : decode cG_pair 14 = .ok (.iconst 2, 1) := by decide +kernel
theorem dG_pair_15 : decode cG_pair 15 = .ok (.if_icmp .ne 10, 3) := by decide +kernel
theorem dG_pair_18 : decode cG_pair 18 = .ok (.aload_n 0, 1) := by decide +kernel
theorem dG_pair_19 : decode cG_pair 19 = .ok (.invokevirtual 29, 3) := by decide +kernel
theorem dG_pair_22 : decode cG_pair 22 = .ok (.goto 12, 3) := by decide +kernel
theorem dG_pair_25 : decode cG_pair 25 = .ok (.aload_n 0, 1) := by decide +kernel
theorem dG_pair_26 : decode cG_pair 26 = .ok (.iconst 2, 1) := by decide +kernel
theorem dG_pair_27 : decode cG_pair 27 = .ok (.iconst 2, 1) := by decide +kernel
theorem dG_pair_28 : decode cG_pair 28 = .ok (.iload_n 1, 1) := by decide +kernel
theorem dG_pair_29 : decode cG_pair 29 = .ok (.imul, 1) := by decide +kernel
theorem dG_pair_30 : decode cG_pair 30 = .ok (.iadd, 1) := by decide +kernel
theorem dG_pair_31 : decode cG_pair 31 = .ok (.invokevirtual 22, 3) := by decide +kernel
theorem dG_pair_34 : decode cG_pair 34 = .ok (.ireturn, 1) := by decide +kernel
theorem dG_setPair_0 : decode cG_setPair 0 = .ok (.iload_n 1, 1) := by decide +kernel
theorem dG_setPair_1 : decode cG_setPair 1 = .ok (.iconst 3, 1) := by decide +kernel
theorem dG_setPair_2 : decode cG_setPair 2 = .ok (.if_icmp .ne 17, 3) := by decide +kernel
theorem dG_setPair_5 : decode cG_setPair 5 = .ok (.aload_n 0, 1) := by decide +kernel
theorem dG_setPair_6 : decode cG_setPair 6 = .ok (.getfield 9, 3) := by decide +kernel
theorem dG_setPair_9 : decode cG_setPair 9 = .ok (.bipush 20, 2) := by decide +kernel
theorem dG_setPair_11 : decode cG_setPair 11 = .ok (.iload_n 2, 1) := by decide +kernel
theorem dG_setPair_12 : decode cG_setPair 12 = .ok (.ldc 21, 2) := by decide +kernel
theorem dG_setPair_14 : decode cG_setPair 14 = .ok (.iand, 1) := by decide +kernel
theorem dG_setPair_15 : decode cG_setPair 15 = .ok (.iastore, 1) := by decide +kernel
theorem dG_setPair_16 : decode cG_setPair 16 = .ok (.goto 26, 3) := by decide +kernel
theorem dG_setPair_19 : decode cG_setPair 19 = .ok (.iload_n 1, 1) := by decide +kernel
theorem dG_setPair_20 : decode cG_setPair 20 = .ok (.iconst 2, 1) := by decide +kernel
theorem dG_setPair_21 : decode cG_setPair 21 = .ok (.if_icmp .ne 11, 3) := by decide +kernel
theorem dG_setPair_24 : decode cG_setPair 24 = .ok (.aload_n 0, 1) := by decide +kernel
theorem dG_setPair_25 : decode cG_setPair 25 = .ok (.iload_n 2, 1) := by decide +kernel
theorem dG_setPair_26 : decode cG_setPair 26 = .ok (.invokevirtual 33, 3) := by decide +kernel
theorem dG_setPair_29 : decode cG_setPair 29 = .ok (.goto 13, 3) := by decide +kernel
theorem dG_setPair_32 : decode cG_setPair 32 = .ok (.aload_n 0, 1) := by decide +kernel
theorem dG_setPair_33 : decode cG_setPair 33 = .ok (.iconst 2, 1) := by decide +kernel
theorem dG_setPair_34 : decode cG_setPair 34 = .ok (.iconst 2, 1) := by decide +kernel
theorem dG_setPair_35 : decode cG_setPair 35 = .ok (.iload_n 1, 1) := by decide +kernel
theorem dG_setPair_36 : decode cG_setPair 36 = .ok (.imul, 1) := by decide +kernel
theorem dG_setPair_37 : decode cG_setPair 37 = .ok (.iadd, 1) := by decide +kernel
theorem dG_setPair_38 : decode cG_setPair 38 = .ok (.iload_n 2, 1) := by decide +kernel
theorem dG_setPair_39 : decode cG_setPair 39 = .ok (.invokevirtual 25, 3) := by decide +kernel
theorem dG_setPair_42 : decode cG_setPair 42 = .ok (.return_, 1) := by decide +kernel
theorem dG_single_0 : decode cG_single 0 = .ok (.iload_n 1, 1) := by decide +kernel
theorem dG_single_1 : decode cG_single 1 = .ok (.bipush 7, 2) := by decide +kernel
theorem dG_single_3 : decode cG_single 3 = .ok (.if_icmp .ne 10, 3) := by decide +kernel
theorem dG_single_6 : decode cG_single 6 = .ok (.aload_n 0, 1) := by decide +kernel
theorem dG_single_7 : decode cG_single 7 = .ok (.getfield 9, 3) := by decide +kernel
theorem dG_single_10 : decode cG_single 10 = .ok (.iconst 0, 1) := by decide +kernel
theorem dG_single_11 : decode cG_single 11 = .ok (.iaload, 1) := by decide +kernel
theorem dG_single_12 : decode cG_single 12 = .ok (.ireturn, 1) := by decide +kernel
theorem dG_single_13 : decode cG_single 13 = .ok (.iload_n 1, 1) := by decide +kernel
theorem dG_single_14 : decode cG_single 14 = .ok (.iconst 4, 1) := by decide +kernel
theorem dG_single_15 : decode cG_single 15 = .ok (.if_icmp .lt 12, 3) := by decide +kernel
theorem dG_single_18 : decode cG_single 18 = .ok (.aload_n 0, 1) := by decide +kernel
theorem dG_single_19 : decode cG_single 19 = .ok (.getfield 13, 3) := by decide +kernel
theorem dG_single_22 : decode cG_single 22 = .ok (.bipush 6, 2) := by decide +kernel
theorem dG_single_24 : decode cG_single 24 = .ok (.if_icmp .ne 12, 3) := by decide +kernel
theorem dG_single_27 : decode cG_single 27 = .ok (.aload_n 0, 1) := by decide +kernel
theorem dG_single_28 : decode cG_single 28 = .ok (.getfield 9, 3) := by decide +kernel
theorem dG_single_31 : decode cG_single 31 = .ok (.iconst 2, 1) := by decide +kernel
theorem dG_single_32 : decode cG_single 32 = .ok (.iload_n 1, 1) := by decide +kernel
theorem dG_single_33 : decode cG_single 33 = .ok (.iadd, 1) := by decide +kernel
theorem dG_single_34 : decode cG_single 34 = .ok (.iaload, 1) := by decide +kernel
theorem dG_single_35 : decode cG_single 35 = .ok (.ireturn, 1) := by decide +kernel
theorem dG_single_36 : decode cG_single 36 = .ok (.iload_n 1, 1) := by decide +kernel
theorem dG_single_37 : decode cG_single 37 = .ok (.iconst 4, 1) := by decide +kernel
theorem dG_single_38 : decode cG_single 38 = .ok (.if_icmp .ne 18, 3) := by decide +kernel
theorem dG_single_41 : decode cG_single 41 = .ok (.aload_n 0, 1) := by decide +kernel
theorem dG_single_42 : decode cG_single 42 = .ok (.getfield 9, 3) := by decide +kernel
theorem dG_single_45 : decode cG_single 45 = .ok (.aload_n 0, 1) := by decide +kernel
theorem dG_single_46 : decode cG_single 46 = .ok (.getfield 13, 3) := by decide +kernel
theorem dG_single_49 : decode cG_single 49 = .ok (.iaload, 1) := by decide +kernel
theorem dG_single_50 : decode cG_single 50 = .ok (.bipush 8, 2) := by decide +kernel
theorem dG_single_52 : decode cG_single 52 = .ok (.ishr, 1) := by decide +kernel
theorem dG_single_53 : decode cG_single 53 = .ok (.goto 16, 3) := by decide +kernel
theorem dG_single_56 : decode cG_single 56 = .ok (.aload_n 0, 1) := by decide +kernel
theorem dG_single_57 : decode cG_single 57 = .ok (.getfield 9, 3) := by decide +kernel
theorem dG_single_60 : decode cG_single 60 = .ok (.aload_n 0, 1) := by decide +kernel
theorem dG_single_61 : decode cG_single 61 = .ok (.getfield 13, 3) := by decide +kernel
theorem dG_single_64 : decode cG_single 64 = .ok (.iaload, 1) := by decide +kernel
theorem dG_single_65 : decode cG_single 65 = .ok (.sipush 255, 3) := by decide +kernel
theorem dG_single_68 : decode cG_single 68 = .ok (.iand, 1) := by decide +kernel
theorem dG_single_69 : decode cG_single 69 = .ok (.ireturn, 1) := by decide +kernel
theorem dG_setSingle_0 : decode cG_setSingle 0 = .ok (.iload_n 1, 1) := by decide +kernel
theorem dG_setSingle_1 : decode cG_setSingle 1 = .ok (.bipush 7, 2) := by decide +kernel
theorem dG_setSingle_3 : decode cG_setSingle 3 = .ok (.if_icmp .ne 13, 3) := by decide +kernel
theorem dG_setSingle_6 : decode cG_setSingle 6 = .ok (.aload_n 0, 1) := by decide +kernel
theorem dG_setSingle_7 : decode cG_setSingle 7 = .ok (.getfield 9, 3) := by decide +kernel
theorem dG_setSingle_10 : decode cG_setSingle 10 = .ok (.iconst 0, 1) := by decide +kernel
theorem dG_setSingle_11 : decode cG_setSingle 11 = .ok (.iload_n 2, 1) := by decide +kernel
theorem dG_setSingle_12 : decode cG_setSingle 12 = .ok (.iastore, 1) := by decide +kernel
theorem dG_setSingle_13 : decode cG_setSingle 13 = .ok (.goto 87, 3) := by decide +kernel
theorem dG_setSingle_16 : decode cG_setSingle 16 = .ok (.iload_n 1, 1) := by decide +kernel
theorem dG_setSingle_17 : decode cG_setSingle 17 = .ok (.iconst 4, 1) := by decide +kernel
theorem dG_setSingle_18 : decode cG_setSingle 18 = .ok (.if_icmp .lt 12, 3) := by decide +kernel
theorem dG_setSingle_21 : decode cG_setSingle 21 = .ok (.aload_n 0, 1) := by decide +kernel
theorem dG_setSingle_22 : decode cG_setSingle 22 = .ok (.getfield 13, 3) := by decide +kernel
theorem dG_setSingle_25 : decode cG_setSingle 25 = .ok (.bipush 6, 2) := by decide +kernel
theorem dG_setSingle_27 : decode cG_setSingle 27 = .ok (.if_icmp .ne 15, 3) := by decide +kernel
theorem dG_setSingle_30 : decode cG_setSingle 30 = .ok (.aload_n 0, 1) := by decide +kernel
theorem dG_setSingle_31 : decode cG_setSingle 31 = .ok (.getfield 9, 3) := by decide +kernel
theorem dG_setSingle_34 : decode cG_setSingle 34 = .ok (.iconst 2, 1) := by decide +kernel
theorem dG_setSingle_35 : decode cG_setSingle 35 = .ok (.iload_n 1, 1) := by decide +kernel
theorem dG_setSingle_36 : decode cG_setSingle 36 = .ok (.iadd, 1) := by decide +kernel
theorem dG_setSingle_37 : decode cG_setSingle 37 = .ok (.iload_n 2, 1) := by decide +kernel
theorem dG_setSingle_38 : decode cG_setSingle 38 = .ok (.iastore, 1) := by decide +kernel
theorem dG_setSingle_39 : decode cG_setSingle 39 = .ok (.goto 61, 3) := by decide +kernel
theorem dG_setSingle_42 : decode cG_setSingle 42 = .ok (.iload_n 1, 1) := by decide +kernel
theorem dG_setSingle_43 : decode cG_setSingle 43 = .ok (.iconst 4, 1) := by decide +kernel
theorem dG_setSingle_44 : decode cG_setSingle 44 = .ok (.if_icmp .ne 33, 3) := by decide +kernel
theorem dG_setSingle_47 : decode cG_setSingle 47 = .ok (.aload_n 0, 1) := by decide +kernel
theorem dG_setSingle_48 : decode cG_setSingle 48 = .ok (.getfield 9, 3) := by decide +kernel
theorem dG_setSingle_51 : decode cG_setSingle 51 = .ok (.aload_n 0, 1) := by decide +kernel
theorem dG_setSingle_52 : decode cG_setSingle 52 = .ok (.getfield 13, 3) := by decide +kernel
theorem dG_setSingle_55 : decode cG_setSingle 55 = .ok (.aload_n 0, 1) := by decide +kernel
theorem dG_setSingle_56 : decode cG_setSingle 56 = .ok (.getfield 9, 3) := by decide +kernel
theorem dG_setSingle_59 : decode cG_setSingle 59 = .ok (.aload_n 0, 1) := by decide +kernel
theorem dG_setSingle_60 : decode cG_setSingle 60 = .ok (.getfield 13, 3) := by decide +kernel
theorem dG_setSingle_63 : decode cG_setSingle 63 = .ok (.iaload, 1) := by decide +kernel
theorem dG_setSingle_64 : decode cG_setSingle 64 = .ok (.sipush 255, 3) := by decide +kernel
theorem dG_setSingle_67 : decode cG_setSingle 67 = .ok (.iand, 1) := by decide +kernel
theorem dG_setSingle_68 : decode cG_setSingle 68 = .ok (.iload_n 2, 1) := by decide +kernel
theorem dG_setSingle_69 : decode cG_setSingle 69 = .ok (.bipush 8, 2) := by decide +kernel
theorem dG_setSingle_71 : decode cG_setSingle 71 = .ok (.ishl, 1) := by decide +kernel
theorem dG_setSingle_72 : decode cG_setSingle 72 = .ok (.ior, 1) := by decide +kernel
theorem dG_setSingle_73 : decode cG_setSingle 73 = .ok (.iastore, 1) := by decide +kernel
theorem dG_setSingle_74 : decode cG_setSingle 74 = .ok (.goto 26, 3) := by decide +kernel
theorem dG_setSingle_77 : decode cG_setSingle 77 = .ok (.aload_n 0, 1) := by decide +kernel
theorem dG_setSingle_78 : decode cG_setSingle 78 = .ok (.getfield 9, 3) := by decide +kernel
theorem dG_setSingle_81 : decode cG_setSingle 81 = .ok (.aload_n 0, 1) := by decide +kernel
theorem dG_setSingle_82 : decode cG_setSingle 82 = .ok (.getfield 13, 3) := by decide +kernel
theorem dG_setSingle_85 : decode cG_setSingle 85 = .ok (.aload_n 0, 1) := by decide +kernel
theorem dG_setSingle_86 : decode cG_setSingle 86 = .ok (.getfield 9, 3) := by decide +kernel
theorem dG_setSingle_89 : decode cG_setSingle 89 = .ok (.aload_n 0, 1) := by decide +kernel
theorem dG_setSingle_90 : decode cG_setSingle 90 = .ok (.getfield 13, 3) := by decide +kernel
theorem dG_setSingle_93 : decode cG_setSingle 93 = .ok (.iaload, 1) := by decide +kernel
theorem dG_setSingle_94 : decode cG_setSingle 94 = .ok (.ldc 37, 2) := by decide +kernel
theorem dG_setSingle_96 : decode cG_setSingle 96 = .ok (.iand, 1) := by decide +kernel
theorem dG_setSingle_97 : decode cG_setSingle 97 = .ok (.iload_n 2, 1) := by decide +kernel
theorem dG_setSingle_98 : decode cG_setSingle 98 = .ok (.ior, 1) := by decide +kernel
theorem dG_setSingle_99 : decode cG_setSingle 99 = .ok (.iastore, 1) := by decide +kernel
theorem dG_setSingle_100 : decode cG_setSingle 100 = .ok (.return_, 1) := by decide +kernel
theorem dG_swap_0 : decode cG_swap 0 = .ok (.aload_n 0, 1) := by decide +kernel
theorem dG_swap_1 : decode cG_swap 1 = .ok (.getfield 9, 3) := by decide +kernel
theorem dG_swap_4 : decode cG_swap 4 = .ok (.iload_n 1, 1) := by decide +kernel
theorem dG_swap_5 : decode cG_swap 5 = .ok (.iaload, 1) := by decide +kernel
theorem dG_swap_6 : decode cG_swap 6 = .ok (.istore_n 3, 1) := by decide +kernel
theorem dG_swap_7 : decode cG_swap 7 = .ok (.aload_n 0, 1) := by decide +kernel
theorem dG_swap_8 : decode cG_swap 8 = .ok (.getfield 9, 3) := by decide +kernel
theorem dG_swap_11 : decode cG_swap 11 = .ok (.iload_n 1, 1) := by decide +kernel
theorem dG_swap_12 : decode cG_swap 12 = .ok (.aload_n 0, 1) := by decide +kernel
theorem dG_swap_13 : decode cG_swap 13 = .ok (.getfield 9, 3) := by decide +kernel
theorem dG_swap_16 : decode cG_swap 16 = .ok (.iload_n 2, 1) := by decide +kernel
theorem dG_swap_17 : decode cG_swap 17 = .ok (.iaload, 1) := by decide +kernel
theorem dG_swap_18 : decode cG_swap 18 = .ok (.iastore, 1) := by decide +kernel
theorem dG_swap_19 : decode cG_swap 19 = .ok (.aload_n 0, 1) := by decide +kernel
theorem dG_swap_20 : decode cG_swap 20 = .ok (.getfield 9, 3) := by decide +kernel
theorem dG_swap_23 : decode cG_swap 23 = .ok (.iload_n 2, 1) := by decide +kernel
theorem dG_swap_24 : decode cG_swap 24 = .ok (.iload_n 3, 1) := by decide +kernel
theorem dG_swap_25 : decode cG_swap 25 = .ok (.iastore, 1) := by decide +kernel
theorem dG_swap_26 : decode cG_swap 26 = .ok (.return_, 1) := by decide +kernel
theorem dG_swapWithSecond_0 : decode cG_swapWithSecond 0 = .ok (.iload_n 1, 1) := by decide +kernel
theorem dG_swapWithSecond_1 : decode cG_swapWithSecond 1 = .ok (.istore_n 3, 1) := by decide +kernel
theorem dG_swapWithSecond_2 : decode cG_swapWithSecond 2 = .ok (.iload_n 3, 1) := by decide +kernel
theorem dG_swapWithSecond_3 : decode cG_swapWithSecond 3 = .ok (.iload_n 2, 1) := by decide +kernel
theorem dG_swapWithSecond_4 : decode cG_swapWithSecond 4 = .ok (.if_icmp .gt 24, 3) := by decide +kernel
theorem dG_swapWithSecond_7 : decode cG_swapWithSecond 7 = .ok (.iload_n 3, 1) := by decide +kernel
theorem dG_swapWithSecond_8 : decode cG_swapWithSecond 8 = .ok (.bipush 8, 2) := by decide +kernel
theorem dG_swapWithSecond_10 : decode cG_swapWithSecond 10 = .ok (.if_icmp .ge 18, 3) := by decide +kernel
theorem dG_swapWithSecond_13 : decode cG_swapWithSecond 13 = .ok (.aload_n 0, 1) := by decide +kernel
theorem dG_swapWithSecond_14 : decode cG_swapWithSecond 14 = .ok (.iload_n 3, 1) := by decide +kernel
theorem dG_swapWithSecond_15 : decode cG_swapWithSecond 15 = .ok (.iload_n 3, 1) := by decide +kernel
theorem dG_swapWithSecond_16 : decode cG_swapWithSecond 16 = .ok (.bipush 8, 2) := by decide +kernel
theorem dG_swapWithSecond_18 : decode cG_swapWithSecond 18 = .ok (.iadd, 1) := by decide +kernel
theorem dG_swapWithSecond_19 : decode cG_swapWithSecond 19 = .ok (.invokevirtual 38, 3) := by decide +kernel
theorem dG_swapWithSecond_22 : decode cG_swapWithSecond 22 = .ok (.iinc 3 1, 3) := by decide +kernel
theorem dG_swapWithSecond_25 : decode cG_swapWithSecond 25 = .ok (.goto (-23), 3) := by decide +kernel
theorem dG_swapWithSecond_28 : decode cG_swapWithSecond 28 = .ok (.return_, 1) := by decide +kernel
theorem dI_bitCount_0 : decode cI_bitCount 0 = .ok (.iload_n 0, 1) := by decide +kernel
theorem dI_bitCount_1 : decode cI_bitCount 1 = .ok (.iload_n 0, 1) := by decide +kernel
theorem dI_bitCount_2 : decode cI_bitCount 2 = .ok (.iconst 1, 1) := by decide +kernel
theorem dI_bitCount_3 : decode cI_bitCount 3 = .ok (.iushr, 1) := by decide +kernel
theorem dI_bitCount_4 : decode cI_bitCount 4 = .ok (.ldc_w 265, 3) := by decide +kernel
theorem dI_bitCount_7 : decode cI_bitCount 7 = .ok (.iand, 1) := by decide +kernel
theorem dI_bitCount_8 : decode cI_bitCount 8 = .ok (.isub, 1) := by decide +kernel
theorem dI_bitCount_9 : decode cI_bitCount 9 = .ok (.istore_n 0, 1) := by decide +kernel
theorem dI_bitCount_10 : decode cI_bitCount 10 = .ok (.iload_n 0, 1) := by decide +kernel
theorem dI_bitCount_11 : decode cI_bitCount 11 = .ok (.ldc_w 266, 3) := by decide +kernel
theorem dI_bitCount_14 : decode cI_bitCount 14 = .ok (.iand, 1) := by decide +kernel
theorem dI_bitCount_15 : decode cI_bitCount 15 = .ok (.iload_n 0, 1) := by decide +kernel
theorem dI_bitCount_16 : decode cI_bitCount 16 = .ok (.iconst 2, 1) := by decide +kernel
theorem dI_bitCount_17 : decode cI_bitCount 17 = .ok (.iushr, 1) := by decide +kernel
theorem dI_bitCount_18 : decode cI_bitCount 18 = .ok (.ldc_w 266, 3) := by decide +kernel
theorem dI_bitCount_21 : decode cI_bitCount 21 = .ok (.iand, 1) := by decide +kernel
theorem dI_bitCount_22 : decode cI_bitCount 22 = .ok (.iadd, 1) := by decide +kernel
theorem dI_bitCount_23 : decode cI_bitCount 23 = .ok (.istore_n 0, 1) := by decide +kernel
theorem dI_bitCount_24 : decode cI_bitCount 24 = .ok (.iload_n 0, 1) := by decide +kernel
theorem dI_bitCount_25 : decode cI_bitCount 25 = .ok (.iload_n 0, 1) := by decide +kernel
theorem dI_bitCount_26 : decode cI_bitCount 26 = .ok (.iconst 4, 1) := by decide +kernel
theorem dI_bitCount_27 : decode cI_bitCount 27 = .ok (.iushr, 1) := by decide +kernel
theorem dI_bitCount_28 : decode cI_bitCount 28 = .ok (.iadd, 1) := by decide +kernel
theorem dI_bitCount_29 : decode cI_bitCount 29 = .ok (.ldc_w 267, 3) := by decide +kernel
theorem dI_bitCount_32 : decode cI_bitCount 32 = .ok (.iand, 1) := by decide +kernel
theorem dI_bitCount_33 : decode cI_bitCount 33 = .ok (.istore_n 0, 1) := by decide +kernel
theorem dI_bitCount_34 : decode cI_bitCount 34 = .ok (.iload_n 0, 1) := by decide +kernel
theorem dI_bitCount_35 : decode cI_bitCount 35 = .ok (.iload_n 0, 1) := by decide +kernel
theorem dI_bitCount_36 : decode cI_bitCount 36 = .ok (.bipush 8, 2) := by decide +kernel
theorem dI_bitCount_38 : decode cI_bitCount 38 = .ok (.iushr, 1) := by decide +kernel
theorem dI_bitCount_39 : decode cI_bitCount 39 = .ok (.iadd, 1) := by decide +kernel
theorem dI_bitCount_40 : decode cI_bitCount 40 = .ok (.istore_n 0, 1) := by decide +kernel
theorem dI_bitCount_41 : decode cI_bitCount 41 = .ok (.iload_n 0, 1) := by decide +kernel
theorem dI_bitCount_42 : decode cI_bitCount 42 = .ok (.iload_n 0, 1) := by decide +kernel
theorem dI_bitCount_43 : decode cI_bitCount 43 = .ok (.bipush 16, 2) := by decide +kernel
theorem dI_bitCount_45 : decode cI_bitCount 45 = .ok (.iushr, 1) := by decide +kernel
theorem dI_bitCount_46 : decode cI_bitCount 46 = .ok (.iadd, 1) := by decide +kernel
theorem dI_bitCount_47 : decode cI_bitCount 47 = .ok (.istore_n 0, 1) := by decide +kernel
theorem dI_bitCount_48 : decode cI_bitCount 48 = .ok (.iload_n 0, 1) := by decide +kernel
theorem dI_bitCount_49 : decode cI_bitCount 49 = .ok (.bipush 63, 2) := by decide +kernel
theorem dI_bitCount_51 : decode cI_bitCount 51 = .ok (.iand, 1) := by decide +kernel
theorem dI_bitCount_52 : decode cI_bitCount 52 = .ok (.ireturn, 1) := by decide +kernel
theorem dL_law_0 : decode code 0 = .ok (.new 7, 3) := by decide +kernel
theorem dL_law_3 : decode code 3 = .ok (.dup, 1) := by decide +kernel
theorem dL_law_4 : decode code 4 = .ok (.invokespecial 9, 3) := by decide +kernel
theorem dL_law_7 : decode code 7 = .ok (.astore_n 1, 1) := by decide +kernel
theorem dL_law_8 : decode code 8 = .ok (.new 10, 3) := by decide +kernel
theorem dL_law_11 : decode code 11 = .ok (.dup, 1) := by decide +kernel
theorem dL_law_12 : decode code 12 = .ok (.invokespecial 12, 3) := by decide +kernel
theorem dL_law_15 : decode code 15 = .ok (.astore_n 2, 1) := by decide +kernel
theorem dL_law_16 : decode code 16 = .ok (.iconst 0, 1) := by decide +kernel
theorem dL_law_17 : decode code 17 = .ok (.istore_n 3, 1) := by decide +kernel
theorem dL_law_18 : decode code 18 = .ok (.iload_n 3, 1) := by decide +kernel
theorem dL_law_19 : decode code 19 = .ok (.aload_n 0, 1) := by decide +kernel
theorem dL_law_20 : decode code 20 = .ok (.arraylength, 1) := by decide +kernel
theorem dL_law_21 : decode code 21 = .ok (.iconst 4, 1) := by decide +kernel
theorem dL_law_22 : decode code 22 = .ok (.isub, 1) := by decide +kernel
theorem dL_law_23 : decode code 23 = .ok (.if_icmp .gt 419, 3) := by decide +kernel
theorem dL_law_26 : decode code 26 = .ok (.aload_n 0, 1) := by decide +kernel
theorem dL_law_27 : decode code 27 = .ok (.iload_n 3, 1) := by decide +kernel
theorem dL_law_28 : decode code 28 = .ok (.iaload, 1) := by decide +kernel
theorem dL_law_29 : decode code 29 = .ok (.bipush 15, 2) := by decide +kernel
theorem dL_law_31 : decode code 31 = .ok (.iand, 1) := by decide +kernel
theorem dL_law_32 : decode code 32 = .ok (.tableswitch 404 0 11 #[64, 95, 138, 161, 194, 217, 276, 299, 322, 345, 358, 381], 64) := by decide +kernel
theorem dL_law_96 : decode code 96 = .ok (.aload_n 1, 1) := by decide +kernel
theorem dL_law_97 : decode code 97 = .ok (.aload_n 0, 1) := by decide +kernel
theorem dL_law_98 : decode code 98 = .ok (.iload_n 3, 1) := by decide +kernel
theorem dL_law_99 : decode code 99 = .ok (.iconst 1, 1) := by decide +kernel
theorem dL_law_100 : decode code 100 = .ok (.iadd, 1) := by decide +kernel
theorem dL_law_101 : decode code 101 = .ok (.iaload, 1) := by decide +kernel
theorem dL_law_102 : decode code 102 = .ok (.aload_n 0, 1) := by decide +kernel
theorem dL_law_103 : decode code 103 = .ok (.iload_n 3, 1) := by decide +kernel
theorem dL_law_104 : decode code 104 = .ok (.iconst 2, 1) := by decide +kernel
theorem dL_law_105 : decode code 105 = .ok (.iadd, 1) := by decide +kernel
theorem dL_law_106 : decode code 106 = .ok (.iaload, 1) := by decide +kernel
theorem dL_law_107 : decode code 107 = .ok (.invokevirtual 13, 3) := by decide +kernel
theorem dL_law_110 : decode code 110 = .ok (.aload_n 2, 1) := by decide +kernel
theorem dL_law_111 : decode code 111 = .ok (.aload_n 0, 1) := by decide +kernel
theorem dL_law_112 : decode code 112 = .ok (.iload_n 3, 1) := by decide +kernel
theorem dL_law_113 : decode code 113 = .ok (.iconst 1, 1) := by decide +kernel
theorem dL_law_114 : decode code 114 = .ok (.iadd, 1) := by decide +kernel
theorem dL_law_115 : decode code 115 = .ok (.iaload, 1) := by decide +kernel
theorem dL_law_116 : decode code 116 = .ok (.aload_n 0, 1) := by decide +kernel
theorem dL_law_117 : decode code 117 = .ok (.iload_n 3, 1) := by decide +kernel
theorem dL_law_118 : decode code 118 = .ok (.iconst 2, 1) := by decide +kernel
theorem dL_law_119 : decode code 119 = .ok (.iadd, 1) := by decide +kernel
theorem dL_law_120 : decode code 120 = .ok (.iaload, 1) := by decide +kernel
theorem dL_law_121 : decode code 121 = .ok (.invokevirtual 17, 3) := by decide +kernel
theorem dL_law_124 : decode code 124 = .ok (.goto 312, 3) := by decide +kernel
theorem dL_law_127 : decode code 127 = .ok (.aload_n 1, 1) := by decide +kernel
theorem dL_law_128 : decode code 128 = .ok (.aload_n 0, 1) := by decide +kernel
theorem dL_law_129 : decode code 129 = .ok (.iload_n 3, 1) := by decide +kernel
theorem dL_law_130 : decode code 130 = .ok (.iconst 1, 1) := by decide +kernel
theorem dL_law_131 : decode code 131 = .ok (.iadd, 1) := by decide +kernel
theorem dL_law_132 : decode code 132 = .ok (.iaload, 1) := by decide +kernel
theorem dL_law_133 : decode code 133 = .ok (.aload_n 0, 1) := by decide +kernel
theorem dL_law_134 : decode code 134 = .ok (.iload_n 3, 1) := by decide +kernel
theorem dL_law_135 : decode code 135 = .ok (.iconst 2, 1) := by decide +kernel
theorem dL_law_136 : decode code 136 = .ok (.iadd, 1) := by decide +kernel
theorem dL_law_137 : decode code 137 = .ok (.iaload, 1) := by decide +kernel
theorem dL_law_138 : decode code 138 = .ok (.aload_n 0, 1) := by decide +kernel
theorem dL_law_139 : decode code 139 = .ok (.iload_n 3, 1) := by decide +kernel
theorem dL_law_140 : decode code 140 = .ok (.iconst 3, 1) := by decide +kernel
theorem dL_law_141 : decode code 141 = .ok (.iadd, 1) := by decide +kernel
theorem dL_law_142 : decode code 142 = .ok (.iaload, 1) := by decide +kernel
theorem dL_law_143 : decode code 143 = .ok (.invokevirtual 18, 3) := by decide +kernel
theorem dL_law_146 : decode code 146 = .ok (.aload_n 2, 1) := by decide +kernel
theorem dL_law_147 : decode code 147 = .ok (.aload_n 0, 1) := by decide +kernel
theorem dL_law_148 : decode code 148 = .ok (.iload_n 3, 1) := by decide +kernel
theorem dL_law_149 : decode code 149 = .ok (.iconst 1, 1) := by decide +kernel
theorem dL_law_150 : decode code 150 = .ok (.iadd, 1) := by decide +kernel
theorem dL_law_151 : decode code 151 = .ok (.iaload, 1) := by decide +kernel
theorem dL_law_152 : decode code 152 = .ok (.aload_n 0, 1) := by decide +kernel
theorem dL_law_153 : decode code 153 = .ok (.iload_n 3, 1) := by decide +kernel
theorem dL_law_154 : decode code 154 = .ok (.iconst 2, 1) := by decide +kernel
theorem dL_law_155 : decode code 155 = .ok (.iadd, 1) := by decide +kernel
theorem dL_law_156 : decode code 156 = .ok (.iaload, 1) := by decide +kernel
theorem dL_law_157 : decode code 157 = .ok (.aload_n 0, 1) := by decide +kernel
theorem dL_law_158 : decode code 158 = .ok (.iload_n 3, 1) := by decide +kernel
theorem dL_law_159 : decode code 159 = .ok (.iconst 3, 1) := by decide +kernel
theorem dL_law_160 : decode code 160 = .ok (.iadd, 1) := by decide +kernel
theorem dL_law_161 : decode code 161 = .ok (.iaload, 1) := by decide +kernel
theorem dL_law_162 : decode code 162 = .ok (.invokevirtual 22, 3) := by decide +kernel
theorem dL_law_165 : decode code 165 = .ok (.if_icmp .eq 271, 3) := by decide +kernel
theorem dL_law_168 : decode code 168 = .ok (.iconst 0, 1) := by decide +kernel
theorem dL_law_169 : decode code 169 = .ok (.ireturn, 1) := by decide +kernel
theorem dL_law_170 : decode code 170 = .ok (.aload_n 1, 1) := by decide +kernel
theorem dL_law_171 : decode code 171 = .ok (.aload_n 0, 1) := by decide +kernel
theorem dL_law_172 : decode code 172 = .ok (.iload_n 3, 1) := by decide +kernel
theorem dL_law_173 : decode code 173 = .ok (.iconst 1, 1) := by decide +kernel
theorem dL_law_174 : decode code 174 = .ok (.iadd, 1) := by decide +kernel
theorem dL_law_175 : decode code 175 = .ok (.iaload, 1) := by decide +kernel
theorem dL_law_176 : decode code 176 = .ok (.invokevirtual 23, 3) := by decide +kernel
theorem dL_law_179 : decode code 179 = .ok (.aload_n 2, 1) := by decide +kernel
theorem dL_law_180 : decode code 180 = .ok (.aload_n 0, 1) := by decide +kernel
theorem dL_law_181 : decode code 181 = .ok (.iload_n 3, 1) := by decide +kernel
theorem dL_law_182 : decode code 182 = .ok (.iconst 1, 1) := by decide +kernel
theorem dL_law_183 : decode code 183 = .ok (.iadd, 1) := by decide +kernel
theorem dL_law_184 : decode code 184 = .ok (.iaload, 1) := by decide +kernel
theorem dL_law_185 : decode code 185 = .ok (.invokevirtual 27, 3) := by decide +kernel
theorem dL_law_188 : decode code 188 = .ok (.if_icmp .eq 248, 3) := by decide +kernel
theorem dL_law_191 : decode code 191 = .ok (.iconst 0, 1) := by decide +kernel
theorem dL_law_192 : decode code 192 = .ok (.ireturn, 1) := by decide +kernel
theorem dL_law_193 : decode code 193 = .ok (.aload_n 1, 1) := by decide +kernel
theorem dL_law_194 : decode code 194 = .ok (.aload_n 0, 1) := by decide +kernel
theorem dL_law_195 : decode code 195 = .ok (.iload_n 3, 1) := by decide +kernel
theorem dL_law_196 : decode code 196 = .ok (.iconst 1, 1) := by decide +kernel
theorem dL_law_197 : decode code 197 = .ok (.iadd, 1) := by decide +kernel
theorem dL_law_198 : decode code 198 = .ok (.iaload, 1) := by decide +kernel
theorem dL_law_199 : decode code 199 = .ok (.aload_n 0, 1) := by decide +kernel
theorem dL_law_200 : decode code 200 = .ok (.iload_n 3, 1) := by decide +kernel
theorem dL_law_201 : decode code 201 = .ok (.iconst 2, 1) := by decide +kernel
theorem dL_law_202 : decode code 202 = .ok (.iadd, 1) := by decide +kernel
theorem dL_law_203 : decode code 203 = .ok (.iaload, 1) := by decide +kernel
theorem dL_law_204 : decode code 204 = .ok (.invokevirtual 28, 3) := by decide +kernel
theorem dL_law_207 : decode code 207 = .ok (.aload_n 2, 1) := by decide +kernel
theorem dL_law_208 : decode code 208 = .ok (.aload_n 0, 1) := by decide +kernel
theorem dL_law_209 : decode code 209 = .ok (.iload_n 3, 1) := by decide +kernel
theorem dL_law_210 : decode code 210 = .ok (.iconst 1, 1) := by decide +kernel
theorem dL_law_211 : decode code 211 = .ok (.iadd, 1) := by decide +kernel
theorem dL_law_212 : decode code 212 = .ok (.iaload, 1) := by decide +kernel
theorem dL_law_213 : decode code 213 = .ok (.aload_n 0, 1) := by decide +kernel
theorem dL_law_214 : decode code 214 = .ok (.iload_n 3, 1) := by decide +kernel
theorem dL_law_215 : decode code 215 = .ok (.iconst 2, 1) := by decide +kernel
theorem dL_law_216 : decode code 216 = .ok (.iadd, 1) := by decide +kernel
theorem dL_law_217 : decode code 217 = .ok (.iaload, 1) := by decide +kernel
theorem dL_law_218 : decode code 218 = .ok (.invokevirtual 32, 3) := by decide +kernel
theorem dL_law_221 : decode code 221 = .ok (.if_icmp .eq 215, 3) := by decide +kernel
theorem dL_law_224 : decode code 224 = .ok (.iconst 0, 1) := by decide +kernel
theorem dL_law_225 : decode code 225 = .ok (.ireturn, 1) := by decide +kernel
theorem dL_law_226 : decode code 226 = .ok (.aload_n 1, 1) := by decide +kernel
theorem dL_law_227 : decode code 227 = .ok (.aload_n 0, 1) := by decide +kernel
theorem dL_law_228 : decode code 228 = .ok (.iload_n 3, 1) := by decide +kernel
theorem dL_law_229 : decode code 229 = .ok (.iconst 1, 1) := by decide +kernel
theorem dL_law_230 : decode code 230 = .ok (.iadd, 1) := by decide +kernel
theorem dL_law_231 : decode code 231 = .ok (.iaload, 1) := by decide +kernel
theorem dL_law_232 : decode code 232 = .ok (.invokevirtual 33, 3) := by decide +kernel
theorem dL_law_235 : decode code 235 = .ok (.aload_n 2, 1) := by decide +kernel
theorem dL_law_236 : decode code 236 = .ok (.aload_n 0, 1) := by decide +kernel
theorem dL_law_237 : decode code 237 = .ok (.iload_n 3, 1) := by decide +kernel
theorem dL_law_238 : decode code 238 = .ok (.iconst 1, 1) := by decide +kernel
theorem dL_law_239 : decode code 239 = .ok (.iadd, 1) := by decide +kernel
theorem dL_law_240 : decode code 240 = .ok (.iaload, 1) := by decide +kernel
theorem dL_law_241 : decode code 241 = .ok (.invokevirtual 36, 3) := by decide +kernel
theorem dL_law_244 : decode code 244 = .ok (.if_icmp .eq 192, 3) := by decide +kernel
theorem dL_law_247 : decode code 247 = .ok (.iconst 0, 1) := by decide +kernel
theorem dL_law_248 : decode code 248 = .ok (.ireturn, 1) := by decide +kernel
theorem dL_law_249 : decode code 249 = .ok (.aload_n 1, 1) := by decide +kernel
theorem dL_law_250 : decode code 250 = .ok (.aload_n 0, 1) := by decide +kernel
theorem dL_law_251 : decode code 251 = .ok (.iload_n 3, 1) := by decide +kernel
theorem dL_law_252 : decode code 252 = .ok (.iconst 1, 1) := by decide +kernel
theorem dL_law_253 : decode code 253 = .ok (.iadd, 1) := by decide +kernel
theorem dL_law_254 : decode code 254 = .ok (.iaload, 1) := by decide +kernel
theorem dL_law_255 : decode code 255 = .ok (.aload_n 0, 1) := by decide +kernel
theorem dL_law_256 : decode code 256 = .ok (.iload_n 3, 1) := by decide +kernel
theorem dL_law_257 : decode code 257 = .ok (.iconst 2, 1) := by decide +kernel
theorem dL_law_258 : decode code 258 = .ok (.iadd, 1) := by decide +kernel
theorem dL_law_259 : decode code 259 = .ok (.iaload, 1) := by decide +kernel
theorem dL_law_260 : decode code 260 = .ok (.aload_n 0, 1) := by decide +kernel
theorem dL_law_261 : decode code 261 = .ok (.iload_n 3, 1) := by decide +kernel
theorem dL_law_262 : decode code 262 = .ok (.iconst 3, 1) := by decide +kernel
theorem dL_law_263 : decode code 263 = .ok (.iadd, 1) := by decide +kernel
theorem dL_law_264 : decode code 264 = .ok (.iaload, 1) := by decide +kernel
theorem dL_law_265 : decode code 265 = .ok (.ifCond .eq 7, 3) := by decide +kernel
theorem dL_law_268 : decode code 268 = .ok (.iconst 1, 1) := by decide +kernel
theorem dL_law_269 : decode code 269 = .ok (.goto 4, 3) := by decide +kernel
theorem dL_law_272 : decode code 272 = .ok (.iconst 0, 1) := by decide +kernel
theorem dL_law_273 : decode code 273 = .ok (.invokevirtual 37, 3) := by decide +kernel
theorem dL_law_276 : decode code 276 = .ok (.aload_n 2, 1) := by decide +kernel
theorem dL_law_277 : decode code 277 = .ok (.aload_n 0, 1) := by decide +kernel
theorem dL_law_278 : decode code 278 = .ok (.iload_n 3, 1) := by decide +kernel
theorem dL_law_279 : decode code 279 = .ok (.iconst 1, 1) := by decide +kernel
theorem dL_law_280 : decode code 280 = .ok (.iadd, 1) := by decide +kernel
theorem dL_law_281 : decode code 281 = .ok (.iaload, 1) := by decide +kernel
theorem dL_law_282 : decode code 282 = .ok (.aload_n 0, 1) := by decide +kernel
theorem dL_law_283 : decode code 283 = .ok (.iload_n 3, 1) := by decide +kernel
theorem dL_law_284 : decode code 284 = .ok (.iconst 2, 1) := by decide +kernel
theorem dL_law_285 : decode code 285 = .ok (.iadd, 1) := by decide +kernel
theorem dL_law_286 : decode code 286 = .ok (.iaload, 1) := by decide +kernel
theorem dL_law_287 : decode code 287 = .ok (.aload_n 0, 1) := by decide +kernel
theorem dL_law_288 : decode code 288 = .ok (.iload_n 3, 1) := by decide +kernel
theorem dL_law_289 : decode code 289 = .ok (.iconst 3, 1) := by decide +kernel
theorem dL_law_290 : decode code 290 = .ok (.iadd, 1) := by decide +kernel
theorem dL_law_291 : decode code 291 = .ok (.iaload, 1) := by decide +kernel
theorem dL_law_292 : decode code 292 = .ok (.ifCond .eq 7, 3) := by decide +kernel
theorem dL_law_295 : decode code 295 = .ok (.iconst 1, 1) := by decide +kernel
theorem dL_law_296 : decode code 296 = .ok (.goto 4, 3) := by decide +kernel
theorem dL_law_299 : decode code 299 = .ok (.iconst 0, 1) := by decide +kernel
theorem dL_law_300 : decode code 300 = .ok (.invokevirtual 41, 3) := by decide +kernel
theorem dL_law_303 : decode code 303 = .ok (.if_icmp .eq 133, 3) := by decide +kernel
theorem dL_law_306 : decode code 306 = .ok (.iconst 0, 1) := by decide +kernel
theorem dL_law_307 : decode code 307 = .ok (.ireturn, 1) := by decide +kernel
theorem dL_law_308 : decode code 308 = .ok (.aload_n 1, 1) := by decide +kernel
theorem dL_law_309 : decode code 309 = .ok (.aload_n 0, 1) := by decide +kernel
theorem dL_law_310 : decode code 310 = .ok (.iload_n 3, 1) := by decide +kernel
theorem dL_law_311 : decode code 311 = .ok (.iconst 1, 1) := by decide +kernel
theorem dL_law_312 : decode code 312 = .ok (.iadd, 1) := by decide +kernel
theorem dL_law_313 : decode code 313 = .ok (.iaload, 1) := by decide +kernel
theorem dL_law_314 : decode code 314 = .ok (.invokevirtual 42, 3) := by decide +kernel
theorem dL_law_317 : decode code 317 = .ok (.aload_n 2, 1) := by decide +kernel
theorem dL_law_318 : decode code 318 = .ok (.aload_n 0, 1) := by decide +kernel
theorem dL_law_319 : decode code 319 = .ok (.iload_n 3, 1) := by decide +kernel
theorem dL_law_320 : decode code 320 = .ok (.iconst 1, 1) := by decide +kernel
theorem dL_law_321 : decode code 321 = .ok (.iadd, 1) := by decide +kernel
theorem dL_law_322 : decode code 322 = .ok (.iaload, 1) := by decide +kernel
theorem dL_law_323 : decode code 323 = .ok (.invokevirtual 46, 3) := by decide +kernel
theorem dL_law_326 : decode code 326 = .ok (.if_icmp .eq 110, 3) := by decide +kernel
theorem dL_law_329 : decode code 329 = .ok (.iconst 0, 1) := by decide +kernel
theorem dL_law_330 : decode code 330 = .ok (.ireturn, 1) := by decide +kernel
theorem dL_law_331 : decode code 331 = .ok (.aload_n 1, 1) := by decide +kernel
theorem dL_law_332 : decode code 332 = .ok (.aload_n 0, 1) := by decide +kernel
theorem dL_law_333 : decode code 333 = .ok (.iload_n 3, 1) := by decide +kernel
theorem dL_law_334 : decode code 334 = .ok (.iconst 1, 1) := by decide +kernel
theorem dL_law_335 : decode code 335 = .ok (.iadd, 1) := by decide +kernel
theorem dL_law_336 : decode code 336 = .ok (.iaload, 1) := by decide +kernel
theorem dL_law_337 : decode code 337 = .ok (.invokevirtual 47, 3) := by decide +kernel
theorem dL_law_340 : decode code 340 = .ok (.aload_n 2, 1) := by decide +kernel
theorem dL_law_341 : decode code 341 = .ok (.aload_n 0, 1) := by decide +kernel
theorem dL_law_342 : decode code 342 = .ok (.iload_n 3, 1) := by decide +kernel
theorem dL_law_343 : decode code 343 = .ok (.iconst 1, 1) := by decide +kernel
theorem dL_law_344 : decode code 344 = .ok (.iadd, 1) := by decide +kernel
theorem dL_law_345 : decode code 345 = .ok (.iaload, 1) := by decide +kernel
theorem dL_law_346 : decode code 346 = .ok (.invokevirtual 50, 3) := by decide +kernel
theorem dL_law_349 : decode code 349 = .ok (.if_icmp .eq 87, 3) := by decide +kernel
theorem dL_law_352 : decode code 352 = .ok (.iconst 0, 1) := by decide +kernel
theorem dL_law_353 : decode code 353 = .ok (.ireturn, 1) := by decide +kernel
theorem dL_law_354 : decode code 354 = .ok (.aload_n 1, 1) := by decide +kernel
theorem dL_law_355 : decode code 355 = .ok (.aload_n 0, 1) := by decide +kernel
theorem dL_law_356 : decode code 356 = .ok (.iload_n 3, 1) := by decide +kernel
theorem dL_law_357 : decode code 357 = .ok (.iconst 1, 1) := by decide +kernel
theorem dL_law_358 : decode code 358 = .ok (.iadd, 1) := by decide +kernel
theorem dL_law_359 : decode code 359 = .ok (.iaload, 1) := by decide +kernel
theorem dL_law_360 : decode code 360 = .ok (.invokevirtual 51, 3) := by decide +kernel
theorem dL_law_363 : decode code 363 = .ok (.aload_n 2, 1) := by decide +kernel
theorem dL_law_364 : decode code 364 = .ok (.aload_n 0, 1) := by decide +kernel
theorem dL_law_365 : decode code 365 = .ok (.iload_n 3, 1) := by decide +kernel
theorem dL_law_366 : decode code 366 = .ok (.iconst 1, 1) := by decide +kernel
theorem dL_law_367 : decode code 367 = .ok (.iadd, 1) := by decide +kernel
theorem dL_law_368 : decode code 368 = .ok (.iaload, 1) := by decide +kernel
theorem dL_law_369 : decode code 369 = .ok (.invokevirtual 54, 3) := by decide +kernel
theorem dL_law_372 : decode code 372 = .ok (.if_icmp .eq 64, 3) := by decide +kernel
theorem dL_law_375 : decode code 375 = .ok (.iconst 0, 1) := by decide +kernel
theorem dL_law_376 : decode code 376 = .ok (.ireturn, 1) := by decide +kernel
theorem dL_law_377 : decode code 377 = .ok (.aload_n 1, 1) := by decide +kernel
theorem dL_law_378 : decode code 378 = .ok (.invokevirtual 55, 3) := by decide +kernel
theorem dL_law_381 : decode code 381 = .ok (.aload_n 2, 1) := by decide +kernel
theorem dL_law_382 : decode code 382 = .ok (.invokevirtual 59, 3) := by decide +kernel
theorem dL_law_385 : decode code 385 = .ok (.if_icmp .eq 51, 3) := by decide +kernel
theorem dL_law_388 : decode code 388 = .ok (.iconst 0, 1) := by decide +kernel
theorem dL_law_389 : decode code 389 = .ok (.ireturn, 1) := by decide +kernel
theorem dL_law_390 : decode code 390 = .ok (.aload_n 1, 1) := by decide +kernel
theorem dL_law_391 : decode code 391 = .ok (.aload_n 0, 1) := by decide +kernel
theorem dL_law_392 : decode code 392 = .ok (.iload_n 3, 1) := by decide +kernel
theorem dL_law_393 : decode code 393 = .ok (.iconst 1, 1) := by decide +kernel
theorem dL_law_394 : decode code 394 = .ok (.iadd, 1) := by decide +kernel
theorem dL_law_395 : decode code 395 = .ok (.iaload, 1) := by decide +kernel
theorem dL_law_396 : decode code 396 = .ok (.invokevirtual 60, 3) := by decide +kernel
theorem dL_law_399 : decode code 399 = .ok (.aload_n 2, 1) := by decide +kernel
theorem dL_law_400 : decode code 400 = .ok (.aload_n 0, 1) := by decide +kernel
theorem dL_law_401 : decode code 401 = .ok (.iload_n 3, 1) := by decide +kernel
theorem dL_law_402 : decode code 402 = .ok (.iconst 1, 1) := by decide +kernel
theorem dL_law_403 : decode code 403 = .ok (.iadd, 1) := by decide +kernel
theorem dL_law_404 : decode code 404 = .ok (.iaload, 1) := by decide +kernel
theorem dL_law_405 : decode code 405 = .ok (.invokevirtual 63, 3) := by decide +kernel
theorem dL_law_408 : decode code 408 = .ok (.if_icmp .eq 28, 3) := by decide +kernel
theorem dL_law_411 : decode code 411 = .ok (.iconst 0, 1) := by decide +kernel
theorem dL_law_412 : decode code 412 = .ok (.ireturn, 1) := by decide +kernel
theorem dL_law_413 : decode code 413 = .ok (.aload_n 1, 1) := by decide +kernel
theorem dL_law_414 : decode code 414 = .ok (.aload_n 0, 1) := by decide +kernel
theorem dL_law_415 : decode code 415 = .ok (.iload_n 3, 1) := by decide +kernel
theorem dL_law_416 : decode code 416 = .ok (.iconst 1, 1) := by decide +kernel
theorem dL_law_417 : decode code 417 = .ok (.iadd, 1) := by decide +kernel
theorem dL_law_418 : decode code 418 = .ok (.iaload, 1) := by decide +kernel
theorem dL_law_419 : decode code 419 = .ok (.invokevirtual 64, 3) := by decide +kernel
theorem dL_law_422 : decode code 422 = .ok (.aload_n 2, 1) := by decide +kernel
theorem dL_law_423 : decode code 423 = .ok (.aload_n 0, 1) := by decide +kernel
theorem dL_law_424 : decode code 424 = .ok (.iload_n 3, 1) := by decide +kernel
theorem dL_law_425 : decode code 425 = .ok (.iconst 1, 1) := by decide +kernel
theorem dL_law_426 : decode code 426 = .ok (.iadd, 1) := by decide +kernel
theorem dL_law_427 : decode code 427 = .ok (.iaload, 1) := by decide +kernel
theorem dL_law_428 : decode code 428 = .ok (.invokevirtual 67, 3) := by decide +kernel
theorem dL_law_431 : decode code 431 = .ok (.if_icmp .eq 5, 3) := by decide +kernel
theorem dL_law_434 : decode code 434 = .ok (.iconst 0, 1) := by decide +kernel
theorem dL_law_435 : decode code 435 = .ok (.ireturn, 1) := by decide +kernel
theorem dL_law_436 : decode code 436 = .ok (.iinc 3 4, 3) := by decide +kernel
theorem dL_law_439 : decode code 439 = .ok (.goto (-421), 3) := by decide +kernel
theorem dL_law_442 : decode code 442 = .ok (.iconst 1, 1) := by decide +kernel
theorem dL_law_443 : decode code 443 = .ok (.ireturn, 1) := by decide +kernel
