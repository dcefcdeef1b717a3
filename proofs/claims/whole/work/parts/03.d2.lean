theorem dM_adjust_71 : decode cM_adjust 71 = .ok (.aload_n 0, 1) := by decide +kernel
theorem dM_adjust_72 : decode cM_adjust 72 = .ok (.getfield 13, 3) := by decide +kernel
theorem dM_adjust_75 : decode cM_adjust 75 = .ok (.iconst 0, 1) := by decide +kernel
theorem dM_adjust_76 : decode cM_adjust 76 = .ok (.iload_n 2, 1) := by decide +kernel
theorem dM_adjust_77 : decode cM_adjust 77 = .ok (.iconst 2, 1) := by decide +kernel
theorem dM_adjust_78 : decode cM_adjust 78 = .ok (.iand, 1) := by decide +kernel
theorem dM_adjust_79 : decode cM_adjust 79 = .ok (.ifCond .eq 9, 3) := by decide +kernel
theorem dM_adjust_82 : decode cM_adjust 82 = .ok (.iload_n 1, 1) := by decide +kernel
theorem dM_adjust_83 : decode cM_adjust 83 = .ok (.iload_n 3, 1) := by decide +kernel
theorem dM_adjust_84 : decode cM_adjust 84 = .ok (.isub, 1) := by decide +kernel
theorem dM_adjust_85 : decode cM_adjust 85 = .ok (.goto 6, 3) := by decide +kernel
theorem dM_adjust_88 : decode cM_adjust 88 = .ok (.iload_n 1, 1) := by decide +kernel
theorem dM_adjust_89 : decode cM_adjust 89 = .ok (.iload_n 3, 1) := by decide +kernel
theorem dM_adjust_90 : decode cM_adjust 90 = .ok (.iadd, 1) := by decide +kernel
theorem dM_adjust_91 : decode cM_adjust 91 = .ok (.sipush 255, 3) := by decide +kernel
theorem dM_adjust_94 : decode cM_adjust 94 = .ok (.iand, 1) := by decide +kernel
theorem dM_adjust_95 : decode cM_adjust 95 = .ok (.iastore, 1) := by decide +kernel
theorem dM_adjust_96 : decode cM_adjust 96 = .ok (.aload_n 0, 1) := by decide +kernel
theorem dM_adjust_97 : decode cM_adjust 97 = .ok (.getfield 13, 3) := by decide +kernel
theorem dM_adjust_100 : decode cM_adjust 100 = .ok (.iconst 1, 1) := by decide +kernel
theorem dM_adjust_101 : decode cM_adjust 101 = .ok (.aload_n 0, 1) := by decide +kernel
theorem dM_adjust_102 : decode cM_adjust 102 = .ok (.getfield 13, 3) := by decide +kernel
theorem dM_adjust_105 : decode cM_adjust 105 = .ok (.iconst 0, 1) := by decide +kernel
theorem dM_adjust_106 : decode cM_adjust 106 = .ok (.iaload, 1) := by decide +kernel
theorem dM_adjust_107 : decode cM_adjust 107 = .ok (.invokestatic 98, 3) := by decide +kernel
theorem dM_adjust_110 : decode cM_adjust 110 = .ok (.aload_n 0, 1) := by decide +kernel
theorem dM_adjust_111 : decode cM_adjust 111 = .ok (.getfield 13, 3) := by decide +kernel
theorem dM_adjust_114 : decode cM_adjust 114 = .ok (.iconst 0, 1) := by decide +kernel
theorem dM_adjust_115 : decode cM_adjust 115 = .ok (.iaload, 1) := by decide +kernel
theorem dM_adjust_116 : decode cM_adjust 116 = .ok (.invokestatic 107, 3) := by decide +kernel
theorem dM_adjust_119 : decode cM_adjust 119 = .ok (.ior, 1) := by decide +kernel
theorem dM_adjust_120 : decode cM_adjust 120 = .ok (.iload_n 1, 1) := by decide +kernel
theorem dM_adjust_121 : decode cM_adjust 121 = .ok (.aload_n 0, 1) := by decide +kernel
theorem dM_adjust_122 : decode cM_adjust 122 = .ok (.getfield 13, 3) := by decide +kernel
theorem dM_adjust_125 : decode cM_adjust 125 = .ok (.iconst 0, 1) := by decide +kernel
theorem dM_adjust_126 : decode cM_adjust 126 = .ok (.iaload, 1) := by decide +kernel
theorem dM_adjust_127 : decode cM_adjust 127 = .ok (.ixor, 1) := by decide +kernel
theorem dM_adjust_128 : decode cM_adjust 128 = .ok (.bipush 16, 2) := by decide +kernel
theorem dM_adjust_130 : decode cM_adjust 130 = .ok (.iand, 1) := by decide +kernel
theorem dM_adjust_131 : decode cM_adjust 131 = .ok (.ior, 1) := by decide +kernel
theorem dM_adjust_132 : decode cM_adjust 132 = .ok (.iload_n 2, 1) := by decide +kernel
theorem dM_adjust_133 : decode cM_adjust 133 = .ok (.iconst 2, 1) := by decide +kernel
theorem dM_adjust_134 : decode cM_adjust 134 = .ok (.iand, 1) := by decide +kernel
theorem dM_adjust_135 : decode cM_adjust 135 = .ok (.ior, 1) := by decide +kernel
theorem dM_adjust_136 : decode cM_adjust 136 = .ok (.iload 4, 2) := by decide +kernel
theorem dM_adjust_138 : decode cM_adjust 138 = .ok (.ifCond .eq 7, 3) := by decide +kernel
theorem dM_adjust_141 : decode cM_adjust 141 = .ok (.iconst 1, 1) := by decide +kernel
theorem dM_adjust_142 : decode cM_adjust 142 = .ok (.goto 4, 3) := by decide +kernel
theorem dM_adjust_145 : decode cM_adjust 145 = .ok (.iconst 0, 1) := by decide +kernel
theorem dM_adjust_146 : decode cM_adjust 146 = .ok (.ior, 1) := by decide +kernel
theorem dM_adjust_147 : decode cM_adjust 147 = .ok (.iastore, 1) := by decide +kernel
theorem dM_adjust_148 : decode cM_adjust 148 = .ok (.return_, 1) := by decide +kernel
theorem dM_single_0 : decode cM_single 0 = .ok (.aload_n 0, 1) := by decide +kernel
theorem dM_single_1 : decode cM_single 1 = .ok (.getfield 13, 3) := by decide +kernel
theorem dM_single_4 : decode cM_single 4 = .ok (.iconst 1, 1) := by decide +kernel
theorem dM_single_5 : decode cM_single 5 = .ok (.iaload, 1) := by decide +kernel
theorem dM_single_6 : decode cM_single 6 = .ok (.istore_n 2, 1) := by decide +kernel
theorem dM_single_7 : decode cM_single 7 = .ok (.iload_n 1, 1) := by decide +kernel
theorem dM_single_8 : decode cM_single 8 = .ok (.iconst 4, 1) := by decide +kernel
theorem dM_single_9 : decode cM_single 9 = .ok (.if_icmp .ge 49, 3) := by decide +kernel
theorem dM_single_12 : decode cM_single 12 = .ok (.aload_n 0, 1) := by decide +kernel
theorem dM_single_13 : decode cM_single 13 = .ok (.getfield 13, 3) := by decide +kernel
theorem dM_single_16 : decode cM_single 16 = .ok (.iconst 0, 1) := by decide +kernel
theorem dM_single_17 : decode cM_single 17 = .ok (.aload_n 0, 1) := by decide +kernel
theorem dM_single_18 : decode cM_single 18 = .ok (.iload_n 1, 1) := by decide +kernel
theorem dM_single_19 : decode cM_single 19 = .ok (.aload_n 0, 1) := by decide +kernel
theorem dM_single_20 : decode cM_single 20 = .ok (.getfield 13, 3) := by decide +kernel
theorem dM_single_23 : decode cM_single 23 = .ok (.iconst 0, 1) := by decide +kernel
theorem dM_single_24 : decode cM_single 24 = .ok (.iaload, 1) := by decide +kernel
theorem dM_single_25 : decode cM_single 25 = .ok (.invokevirtual 113, 3) := by decide +kernel
theorem dM_single_28 : decode cM_single 28 = .ok (.iastore, 1) := by decide +kernel
theorem dM_single_29 : decode cM_single 29 = .ok (.aload_n 0, 1) := by decide +kernel
theorem dM_single_30 : decode cM_single 30 = .ok (.getfield 13, 3) := by decide +kernel
theorem dM_single_33 : decode cM_single 33 = .ok (.iconst 1, 1) := by decide +kernel
theorem dM_single_34 : decode cM_single 34 = .ok (.iload_n 2, 1) := by decide +kernel
theorem dM_single_35 : decode cM_single 35 = .ok (.sipush 196, 3) := by decide +kernel
theorem dM_single_38 : decode cM_single 38 = .ok (.iand, 1) := by decide +kernel
theorem dM_single_39 : decode cM_single 39 = .ok (.aload_n 0, 1) := by decide +kernel
theorem dM_single_40 : decode cM_single 40 = .ok (.getfield 13, 3) := by decide +kernel
theorem dM_single_43 : decode cM_single 43 = .ok (.iconst 0, 1) := by decide +kernel
theorem dM_single_44 : decode cM_single 44 = .ok (.iaload, 1) := by decide +kernel
theorem dM_single_45 : decode cM_single 45 = .ok (.bipush 40, 2) := by decide +kernel
theorem dM_single_47 : decode cM_single 47 = .ok (.iand, 1) := by decide +kernel
theorem dM_single_48 : decode cM_single 48 = .ok (.ior, 1) := by decide +kernel
theorem dM_single_49 : decode cM_single 49 = .ok (.aload_n 0, 1) := by decide +kernel
theorem dM_single_50 : decode cM_single 50 = .ok (.getfield 110, 3) := by decide +kernel
theorem dM_single_53 : decode cM_single 53 = .ok (.ior, 1) := by decide +kernel
theorem dM_single_54 : decode cM_single 54 = .ok (.iastore, 1) := by decide +kernel
theorem dM_single_55 : decode cM_single 55 = .ok (.goto 112, 3) := by decide +kernel
theorem dM_single_58 : decode cM_single 58 = .ok (.iload_n 1, 1) := by decide +kernel
theorem dM_single_59 : decode cM_single 59 = .ok (.iconst 4, 1) := by decide +kernel
theorem dM_single_60 : decode cM_single 60 = .ok (.if_icmp .ne 10, 3) := by decide +kernel
theorem dM_single_63 : decode cM_single 63 = .ok (.aload_n 0, 1) := by decide +kernel
theorem dM_single_64 : decode cM_single 64 = .ok (.invokevirtual 117, 3) := by decide +kernel
theorem dM_single_67 : decode cM_single 67 = .ok (.goto 100, 3) := by decide +kernel
theorem dM_single_70 : decode cM_single 70 = .ok (.iload_n 1, 1) := by decide +kernel
theorem dM_single_71 : decode cM_single 71 = .ok (.iconst 5, 1) := by decide +kernel
theorem dM_single_72 : decode cM_single 72 = .ok (.if_icmp .ne 48, 3) := by decide +kernel
theorem dM_single_75 : decode cM_single 75 = .ok (.aload_n 0, 1) := by decide +kernel
theorem dM_single_76 : decode cM_single 76 = .ok (.getfield 13, 3) := by decide +kernel
theorem dM_single_79 : decode cM_single 79 = .ok (.iconst 0, 1) := by decide +kernel
theorem dM_single_80 : decode cM_single 80 = .ok (.sipush 255, 3) := by decide +kernel
theorem dM_single_83 : decode cM_single 83 = .ok (.aload_n 0, 1) := by decide +kernel
theorem dM_single_84 : decode cM_single 84 = .ok (.getfield 13, 3) := by decide +kernel
theorem dM_single_87 : decode cM_single 87 = .ok (.iconst 0, 1) := by decide +kernel
theorem dM_single_88 : decode cM_single 88 = .ok (.iaload, 1) := by decide +kernel
theorem dM_single_89 : decode cM_single 89 = .ok (.isub, 1) := by decide +kernel
theorem dM_single_90 : decode cM_single 90 = .ok (.iastore, 1) := by decide +kernel
theorem dM_single_91 : decode cM_single 91 = .ok (.aload_n 0, 1) := by decide +kernel
theorem dM_single_92 : decode cM_single 92 = .ok (.getfield 13, 3) := by decide +kernel
theorem dM_single_95 : decode cM_single 95 = .ok (.iconst 1, 1) := by decide +kernel
theorem dM_single_96 : decode cM_single 96 = .ok (.iload_n 2, 1) := by decide +kernel
theorem dM_single_97 : decode cM_single 97 = .ok (.sipush 197, 3) := by decide +kernel
theorem dM_single_100 : decode cM_single 100 = .ok (.iand, 1) := by decide +kernel
theorem dM_single_101 : decode cM_single 101 = .ok (.aload_n 0, 1) := by decide +kernel
theorem dM_single_102 : decode cM_single 102 = .ok (.getfield 13, 3) := by decide +kernel
theorem dM_single_105 : decode cM_single 105 = .ok (.iconst 0, 1) := by decide +kernel
theorem dM_single_106 : decode cM_single 106 = .ok (.iaload, 1) := by decide +kernel
theorem dM_single_107 : decode cM_single 107 = .ok (.bipush 40, 2) := by decide +kernel
theorem dM_single_109 : decode cM_single 109 = .ok (.iand, 1) := by decide +kernel
theorem dM_single_110 : decode cM_single 110 = .ok (.ior, 1) := by decide +kernel
theorem dM_single_111 : decode cM_single 111 = .ok (.bipush 16, 2) := by decide +kernel
theorem dM_single_113 : decode cM_single 113 = .ok (.ior, 1) := by decide +kernel
theorem dM_single_114 : decode cM_single 114 = .ok (.iconst 2, 1) := by decide +kernel
theorem dM_single_115 : decode cM_single 115 = .ok (.ior, 1) := by decide +kernel
theorem dM_single_116 : decode cM_single 116 = .ok (.iastore, 1) := by decide +kernel
theorem dM_single_117 : decode cM_single 117 = .ok (.goto 50, 3) := by decide +kernel
theorem dM_single_120 : decode cM_single 120 = .ok (.iload_n 2, 1) := by decide +kernel
theorem dM_single_121 : decode cM_single 121 = .ok (.iconst 1, 1) := by decide +kernel
theorem dM_single_122 : decode cM_single 122 = .ok (.iand, 1) := by decide +kernel
theorem dM_single_123 : decode cM_single 123 = .ok (.istore_n 3, 1) := by decide +kernel
theorem dM_single_124 : decode cM_single 124 = .ok (.aload_n 0, 1) := by decide +kernel
theorem dM_single_125 : decode cM_single 125 = .ok (.getfield 13, 3) := by decide +kernel
theorem dM_single_128 : decode cM_single 128 = .ok (.iconst 1, 1) := by decide +kernel
theorem dM_single_129 : decode cM_single 129 = .ok (.iload_n 2, 1) := by decide +kernel
theorem dM_single_130 : decode cM_single 130 = .ok (.sipush 196, 3) := by decide +kernel
theorem dM_single_133 : decode cM_single 133 = .ok (.iand, 1) := by decide +kernel
theorem dM_single_134 : decode cM_single 134 = .ok (.aload_n 0, 1) := by decide +kernel
theorem dM_single_135 : decode cM_single 135 = .ok (.getfield 13, 3) := by decide +kernel
theorem dM_single_138 : decode cM_single 138 = .ok (.iconst 0, 1) := by decide +kernel
theorem dM_single_139 : decode cM_single 139 = .ok (.iaload, 1) := by decide +kernel
theorem dM_single_140 : decode cM_single 140 = .ok (.bipush 40, 2) := by decide +kernel
theorem dM_single_142 : decode cM_single 142 = .ok (.iand, 1) := by decide +kernel
theorem dM_single_143 : decode cM_single 143 = .ok (.ior, 1) := by decide +kernel
theorem dM_single_144 : decode cM_single 144 = .ok (.iload_n 1, 1) := by decide +kernel
theorem dM_single_145 : decode cM_single 145 = .ok (.bipush 6, 2) := by decide +kernel
theorem dM_single_147 : decode cM_single 147 = .ok (.if_icmp .ne 7, 3) := by decide +kernel
theorem dM_single_150 : decode cM_single 150 = .ok (.iconst 1, 1) := by decide +kernel
theorem dM_single_151 : decode cM_single 151 = .ok (.goto 14, 3) := by decide +kernel
theorem dM_single_154 : decode cM_single 154 = .ok (.iload_n 3, 1) := by decide +kernel
theorem dM_single_155 : decode cM_single 155 = .ok (.iconst 1, 1) := by decide +kernel
theorem dM_single_156 : decode cM_single 156 = .ok (.if_icmp .ne 8, 3) := by decide +kernel
theorem dM_single_159 : decode cM_single 159 = .ok (.bipush 16, 2) := by decide +kernel
theorem dM_single_161 : decode cM_single 161 = .ok (.goto 4, 3) := by decide +kernel
theorem dM_single_164 : decode cM_single 164 = .ok (.iconst 1, 1) := by decide +kernel
theorem dM_single_165 : decode cM_single 165 = .ok (.ior, 1) := by decide +kernel
theorem dM_single_166 : decode cM_single 166 = .ok (.iastore, 1) := by decide +kernel
theorem dM_single_167 : decode cM_single 167 = .ok (.return_, 1) := by decide +kernel
theorem dM_over_0 : decode cM_over 0 = .ok (.iconst 0, 1) := by decide +kernel
theorem dM_over_1 : decode cM_over 1 = .ok (.istore_n 2, 1) := by decide +kernel
theorem dM_over_2 : decode cM_over 2 = .ok (.aload_n 0, 1) := by decide +kernel
theorem dM_over_3 : decode cM_over 3 = .ok (.getfield 120, 3) := by decide +kernel
theorem dM_over_6 : decode cM_over 6 = .ok (.istore_n 3, 1) := by decide +kernel
theorem dM_over_7 : decode cM_over 7 = .ok (.iload_n 2, 1) := by decide +kernel
theorem dM_over_8 : decode cM_over 8 = .ok (.aload_n 0, 1) := by decide +kernel
theorem dM_over_9 : decode cM_over 9 = .ok (.getfield 123, 3) := by decide +kernel
theorem dM_over_12 : decode cM_over 12 = .ok (.if_icmp .ge 30, 3) := by decide +kernel
theorem dM_over_15 : decode cM_over 15 = .ok (.iload_n 3, 1) := by decide +kernel
theorem dM_over_16 : decode cM_over 16 = .ok (.aload_n 0, 1) := by decide +kernel
theorem dM_over_17 : decode cM_over 17 = .ok (.getfield 23, 3) := by decide +kernel
theorem dM_over_20 : decode cM_over 20 = .ok (.iload_n 2, 1) := by decide +kernel
theorem dM_over_21 : decode cM_over 21 = .ok (.iaload, 1) := by decide +kernel
theorem dM_over_22 : decode cM_over 22 = .ok (.iadd, 1) := by decide +kernel
theorem dM_over_23 : decode cM_over 23 = .ok (.iload_n 1, 1) := by decide +kernel
theorem dM_over_24 : decode cM_over 24 = .ok (.if_icmp .gt 18, 3) := by decide +kernel
theorem dM_over_27 : decode cM_over 27 = .ok (.iload_n 3, 1) := by decide +kernel
theorem dM_over_28 : decode cM_over 28 = .ok (.aload_n 0, 1) := by decide +kernel
theorem dM_over_29 : decode cM_over 29 = .ok (.getfield 23, 3) := by decide +kernel
theorem dM_over_32 : decode cM_over 32 = .ok (.iload_n 2, 1) := by decide +kernel
theorem dM_over_33 : decode cM_over 33 = .ok (.iaload, 1) := by decide +kernel
theorem dM_over_34 : decode cM_over 34 = .ok (.iadd, 1) := by decide +kernel
theorem dM_over_35 : decode cM_over 35 = .ok (.istore_n 3, 1) := by decide +kernel
theorem dM_over_36 : decode cM_over 36 = .ok (.iinc 2 1, 3) := by decide +kernel
theorem dM_over_39 : decode cM_over 39 = .ok (.goto (-32), 3) := by decide +kernel
theorem dM_over_42 : decode cM_over 42 = .ok (.iload_n 2, 1) := by decide +kernel
theorem dM_over_43 : decode cM_over 43 = .ok (.ireturn, 1) := by decide +kernel
theorem dM_play_0 : decode cM_play 0 = .ok (.aload_n 0, 1) := by decide +kernel
theorem dM_play_1 : decode cM_play 1 = .ok (.getfield 126, 3) := by decide +kernel
theorem dM_play_4 : decode cM_play 4 = .ok (.ifCond .eq 35, 3) := by decide +kernel
theorem dM_play_7 : decode cM_play 7 = .ok (.aload_n 0, 1) := by decide +kernel
theorem dM_play_8 : decode cM_play 8 = .ok (.aload_n 0, 1) := by decide +kernel
theorem dM_play_9 : decode cM_play 9 = .ok (.aload_n 0, 1) := by decide +kernel
theorem dM_play_10 : decode cM_play 10 = .ok (.getfield 26, 3) := by decide +kernel
theorem dM_play_13 : decode cM_play 13 = .ok (.invokevirtual 129, 3) := by decide +kernel
theorem dM_play_16 : decode cM_play 16 = .ok (.putfield 131, 3) := by decide +kernel
theorem dM_play_19 : decode cM_play 19 = .ok (.aload_n 0, 1) := by decide +kernel
theorem dM_play_20 : decode cM_play 20 = .ok (.aload_n 0, 1) := by decide +kernel
theorem dM_play_21 : decode cM_play 21 = .ok (.getfield 131, 3) := by decide +kernel
theorem dM_play_24 : decode cM_play 24 = .ok (.aload_n 0, 1) := by decide +kernel
theorem dM_play_25 : decode cM_play 25 = .ok (.getfield 123, 3) := by decide +kernel
theorem dM_play_28 : decode cM_play 28 = .ok (.if_icmp .ge 7, 3) := by decide +kernel
theorem dM_play_31 : decode cM_play 31 = .ok (.iconst 1, 1) := by decide +kernel
theorem dM_play_32 : decode cM_play 32 = .ok (.goto 4, 3) := by decide +kernel
theorem dM_play_35 : decode cM_play 35 = .ok (.iconst 0, 1) := by decide +kernel
theorem dM_play_36 : decode cM_play 36 = .ok (.putfield 126, 3) := by decide +kernel
theorem dM_play_39 : decode cM_play 39 = .ok (.return_, 1) := by decide +kernel
theorem dM_input_0 : decode cM_input 0 = .ok (.iload_n 1, 1) := by decide +kernel
theorem dM_input_1 : decode cM_input 1 = .ok (.iconst 2, 1) := by decide +kernel
theorem dM_input_2 : decode cM_input 2 = .ok (.irem, 1) := by decide +kernel
theorem dM_input_3 : decode cM_input 3 = .ok (.iconst 1, 1) := by decide +kernel
theorem dM_input_4 : decode cM_input 4 = .ok (.if_icmp .ne 12, 3) := by decide +kernel
theorem dM_input_7 : decode cM_input 7 = .ok (.aload_n 0, 1) := by decide +kernel
theorem dM_input_8 : decode cM_input 8 = .ok (.iconst 4, 1) := by decide +kernel
theorem dM_input_9 : decode cM_input 9 = .ok (.invokevirtual 33, 3) := by decide +kernel
theorem dM_input_12 : decode cM_input 12 = .ok (.sipush 255, 3) := by decide +kernel
theorem dM_input_15 : decode cM_input 15 = .ok (.ireturn, 1) := by decide +kernel
theorem dM_input_16 : decode cM_input 16 = .ok (.aload_n 0, 1) := by decide +kernel
theorem dM_input_17 : decode cM_input 17 = .ok (.invokevirtual 37, 3) := by decide +kernel
theorem dM_input_20 : decode cM_input 20 = .ok (.aload_n 0, 1) := by decide +kernel
theorem dM_input_21 : decode cM_input 21 = .ok (.invokevirtual 134, 3) := by decide +kernel
theorem dM_input_24 : decode cM_input 24 = .ok (.sipush 160, 3) := by decide +kernel
theorem dM_input_27 : decode cM_input 27 = .ok (.aload_n 0, 1) := by decide +kernel
theorem dM_input_28 : decode cM_input 28 = .ok (.getfield 131, 3) := by decide +kernel
theorem dM_input_31 : decode cM_input 31 = .ok (.iconst 2, 1) := by decide +kernel
theorem dM_input_32 : decode cM_input 32 = .ok (.irem, 1) := by decide +kernel
theorem dM_input_33 : decode cM_input 33 = .ok (.iconst 1, 1) := by decide +kernel
theorem dM_input_34 : decode cM_input 34 = .ok (.if_icmp .ne 8, 3) := by decide +kernel
theorem dM_input_37 : decode cM_input 37 = .ok (.bipush 64, 2) := by decide +kernel
theorem dM_input_39 : decode cM_input 39 = .ok (.goto 4, 3) := by decide +kernel
theorem dM_input_42 : decode cM_input 42 = .ok (.iconst 0, 1) := by decide +kernel
theorem dM_input_43 : decode cM_input 43 = .ok (.iadd, 1) := by decide +kernel
theorem dM_input_44 : decode cM_input 44 = .ok (.istore_n 2, 1) := by decide +kernel
theorem dM_input_45 : decode cM_input 45 = .ok (.iconst 0, 1) := by decide +kernel
theorem dM_input_46 : decode cM_input 46 = .ok (.istore_n 3, 1) := by decide +kernel
theorem dM_input_47 : decode cM_input 47 = .ok (.iload_n 3, 1) := by decide +kernel
theorem dM_input_48 : decode cM_input 48 = .ok (.iconst 5, 1) := by decide +kernel
theorem dM_input_49 : decode cM_input 49 = .ok (.if_icmp .ge 81, 3) := by decide +kernel
theorem dM_input_52 : decode cM_input 52 = .ok (.iconst 0, 1) := by decide +kernel
theorem dM_input_53 : decode cM_input 53 = .ok (.istore 4, 2) := by decide +kernel
theorem dM_input_55 : decode cM_input 55 = .ok (.iconst 0, 1) := by decide +kernel
theorem dM_input_56 : decode cM_input 56 = .ok (.istore 5, 2) := by decide +kernel
theorem dM_input_58 : decode cM_input 58 = .ok (.iload 5, 2) := by decide +kernel
theorem dM_input_60 : decode cM_input 60 = .ok (.bipush 8, 2) := by decide +kernel
theorem dM_input_62 : decode cM_input 62 = .ok (.if_icmp .ge 47, 3) := by decide +kernel
theorem dM_input_65 : decode cM_input 65 = .ok (.iload 4, 2) := by decide +kernel
theorem dM_input_67 : decode cM_input 67 = .ok (.ifCond .ne 29, 3) := by decide +kernel
theorem dM_input_70 : decode cM_input 70 = .ok (.iload_n 1, 1) := by decide +kernel
theorem dM_input_71 : decode cM_input 71 = .ok (.bipush 8, 2) := by decide +kernel
theorem dM_input_73 : decode cM_input 73 = .ok (.iload 5, 2) := by decide +kernel
theorem dM_input_75 : decode cM_input 75 = .ok (.iadd, 1) := by decide +kernel
theorem dM_input_76 : decode cM_input 76 = .ok (.ishr, 1) := by decide +kernel
theorem dM_input_77 : decode cM_input 77 = .ok (.iconst 1, 1) := by decide +kernel
theorem dM_input_78 : decode cM_input 78 = .ok (.iand, 1) := by decide +kernel
theorem dM_input_79 : decode cM_input 79 = .ok (.ifCond .ne 21, 3) := by decide +kernel
theorem dM_input_82 : decode cM_input 82 = .ok (.aload_n 0, 1) := by decide +kernel
theorem dM_input_83 : decode cM_input 83 = .ok (.getfield 16, 3) := by decide +kernel
theorem dM_input_86 : decode cM_input 86 = .ok (.iconst 5, 1) := by decide +kernel
theorem dM_input_87 : decode cM_input 87 = .ok (.iload 5, 2) := by decide +kernel
theorem dM_input_89 : decode cM_input 89 = .ok (.imul, 1) := by decide +kernel
theorem dM_input_90 : decode cM_input 90 = .ok (.iload_n 3, 1) := by decide +kernel
theorem dM_input_91 : decode cM_input 91 = .ok (.iadd, 1) := by decide +kernel
theorem dM_input_92 : decode cM_input 92 = .ok (.baload, 1) := by decide +kernel
theorem dM_input_93 : decode cM_input 93 = .ok (.ifCond .eq 7, 3) := by decide +kernel
theorem dM_input_96 : decode cM_input 96 = .ok (.iconst 1, 1) := by decide +kernel
theorem dM_input_97 : decode cM_input 97 = .ok (.goto 4, 3) := by decide +kernel
theorem dM_input_100 : decode cM_input 100 = .ok (.iconst 0, 1) := by decide +kernel
theorem dM_input_101 : decode cM_input 101 = .ok (.istore 4, 2) := by decide +kernel
theorem dM_input_103 : decode cM_input 103 = .ok (.iinc 5 1, 3) := by decide +kernel
theorem dM_input_106 : decode cM_input 106 = .ok (.goto (-48), 3) := by decide +kernel
theorem dM_input_109 : decode cM_input 109 = .ok (.iload_n 2, 1) := by decide +kernel
theorem dM_input_110 : decode cM_input 110 = .ok (.iload 4, 2) := by decide +kernel
theorem dM_input_112 : decode cM_input 112 = .ok (.ifCond .eq 7, 3) := by decide +kernel
theorem dM_input_115 : decode cM_input 115 = .ok (.iconst 0, 1) := by decide +kernel
theorem dM_input_116 : decode cM_input 116 = .ok (.goto 6, 3) := by decide +kernel
theorem dM_input_119 : decode cM_input 119 = .ok (.iconst 1, 1) := by decide +kernel
theorem dM_input_120 : decode cM_input 120 = .ok (.iload_n 3, 1) := by decide +kernel
theorem dM_input_121 : decode cM_input 121 = .ok (.ishl, 1) := by decide +kernel
theorem dM_input_122 : decode cM_input 122 = .ok (.iadd, 1) := by decide +kernel
theorem dM_input_123 : decode cM_input 123 = .ok (.istore_n 2, 1) := by decide +kernel
theorem dM_input_124 : decode cM_input 124 = .ok (.iinc 3 1, 3) := by decide +kernel
theorem dM_input_127 : decode cM_input 127 = .ok (.goto (-80), 3) := by decide +kernel
theorem dM_input_130 : decode cM_input 130 = .ok (.aload_n 0, 1) := by decide +kernel
theorem dM_input_131 : decode cM_input 131 = .ok (.iconst 4, 1) := by decide +kernel
theorem dM_input_132 : decode cM_input 132 = .ok (.invokevirtual 33, 3) := by decide +kernel
theorem dM_input_135 : decode cM_input 135 = .ok (.iload_n 2, 1) := by decide +kernel
theorem dM_input_136 : decode cM_input 136 = .ok (.ireturn, 1) := by decide +kernel
theorem dM_output_0 : decode cM_output 0 = .ok (.iload_n 1, 1) := by decide +kernel
theorem dM_output_1 : decode cM_output 1 = .ok (.iconst 2, 1) := by decide +kernel
theorem dM_output_2 : decode cM_output 2 = .ok (.irem, 1) := by decide +kernel
theorem dM_output_3 : decode cM_output 3 = .ok (.iconst 1, 1) := by decide +kernel
theorem dM_output_4 : decode cM_output 4 = .ok (.if_icmp .ne 9, 3) := by decide +kernel
theorem dM_output_7 : decode cM_output 7 = .ok (.aload_n 0, 1) := by decide +kernel
theorem dM_output_8 : decode cM_output 8 = .ok (.iconst 4, 1) := by decide +kernel
theorem dM_output_9 : decode cM_output 9 = .ok (.invokevirtual 33, 3) := by decide +kernel
theorem dM_output_12 : decode cM_output 12 = .ok (.return_, 1) := by decide +kernel
theorem dM_output_13 : decode cM_output 13 = .ok (.aload_n 0, 1) := by decide +kernel
theorem dM_output_14 : decode cM_output 14 = .ok (.invokevirtual 37, 3) := by decide +kernel
theorem dM_output_17 : decode cM_output 17 = .ok (.aload_n 0, 1) := by decide +kernel
theorem dM_output_18 : decode cM_output 18 = .ok (.iconst 4, 1) := by decide +kernel
theorem dM_output_19 : decode cM_output 19 = .ok (.invokevirtual 33, 3) := by decide +kernel
theorem dM_output_22 : decode cM_output 22 = .ok (.aload_n 0, 1) := by decide +kernel
theorem dM_output_23 : decode cM_output 23 = .ok (.iload_n 2, 1) := by decide +kernel
theorem dM_output_24 : decode cM_output 24 = .ok (.bipush 7, 2) := by decide +kernel
theorem dM_output_26 : decode cM_output 26 = .ok (.iand, 1) := by decide +kernel
theorem dM_output_27 : decode cM_output 27 = .ok (.putfield 30, 3) := by decide +kernel
theorem dM_output_30 : decode cM_output 30 = .ok (.aload_n 0, 1) := by decide +kernel
theorem dM_output_31 : decode cM_output 31 = .ok (.dup, 1) := by decide +kernel
theorem dM_output_32 : decode cM_output 32 = .ok (.getfield 137, 3) := by decide +kernel
theorem dM_output_35 : decode cM_output 35 = .ok (.iload_n 2, 1) := by decide +kernel
theorem dM_output_36 : decode cM_output 36 = .ok (.iconst 4, 1) := by decide +kernel
theorem dM_output_37 : decode cM_output 37 = .ok (.ishr, 1) := by decide +kernel
theorem dM_output_38 : decode cM_output 38 = .ok (.iconst 1, 1) := by decide +kernel
theorem dM_output_39 : decode cM_output 39 = .ok (.iand, 1) := by decide +kernel
theorem dM_output_40 : decode cM_output 40 = .ok (.aload_n 0, 1) := by decide +kernel
theorem dM_output_41 : decode cM_output 41 = .ok (.getfield 140, 3) := by decide +kernel
theorem dM_output_44 : decode cM_output 44 = .ok (.if_icmp .eq 7, 3) := by decide +kernel
theorem dM_output_47 : decode cM_output 47 = .ok (.iconst 1, 1) := by decide +kernel
theorem dM_output_48 : decode cM_output 48 = .ok (.goto 4, 3) := by decide +kernel
theorem dM_output_51 : decode cM_output 51 = .ok (.iconst 0, 1) := by decide +kernel
theorem dM_output_52 : decode cM_output 52 = .ok (.iadd, 1) := by decide +kernel
theorem dM_output_53 : decode cM_output 53 = .ok (.putfield 137, 3) := by decide +kernel
theorem dM_output_56 : decode cM_output 56 = .ok (.aload_n 0, 1) := by decide +kernel
theorem dM_output_57 : decode cM_output 57 = .ok (.iload_n 2, 1) := by decide +kernel
theorem dM_output_58 : decode cM_output 58 = .ok (.iconst 4, 1) := by decide +kernel
theorem dM_output_59 : decode cM_output 59 = .ok (.ishr, 1) := by decide +kernel
theorem dM_output_60 : decode cM_output 60 = .ok (.iconst 1, 1) := by decide +kernel
theorem dM_output_61 : decode cM_output 61 = .ok (.iand, 1) := by decide +kernel
theorem dM_output_62 : decode cM_output 62 = .ok (.putfield 140, 3) := by decide +kernel
theorem dM_output_65 : decode cM_output 65 = .ok (.aload_n 0, 1) := by decide +kernel
theorem dM_output_66 : decode cM_output 66 = .ok (.getfield 26, 3) := by decide +kernel
theorem dM_output_69 : decode cM_output 69 = .ok (.bipush 64, 2) := by decide +kernel
theorem dM_output_71 : decode cM_output 71 = .ok (.irem, 1) := by decide +kernel
theorem dM_output_72 : decode cM_output 72 = .ok (.ifCond .ne 23, 3) := by decide +kernel
theorem dM_output_75 : decode cM_output 75 = .ok (.aload_n 0, 1) := by decide +kernel
theorem dM_output_76 : decode cM_output 76 = .ok (.getfield 20, 3) := by decide +kernel
theorem dM_output_79 : decode cM_output 79 = .ok (.aload_n 0, 1) := by decide +kernel
theorem dM_output_80 : decode cM_output 80 = .ok (.getfield 26, 3) := by decide +kernel
theorem dM_output_83 : decode cM_output 83 = .ok (.sipush 4096, 3) := by decide +kernel
theorem dM_output_86 : decode cM_output 86 = .ok (.irem, 1) := by decide +kernel
theorem dM_output_87 : decode cM_output 87 = .ok (.bipush 64, 2) := by decide +kernel
theorem dM_output_89 : decode cM_output 89 = .ok (.idiv, 1) := by decide +kernel
theorem dM_output_90 : decode cM_output 90 = .ok (.aload_n 0, 1) := by decide +kernel
theorem dM_output_91 : decode cM_output 91 = .ok (.getfield 30, 3) := by decide +kernel
theorem dM_output_94 : decode cM_output 94 = .ok (.iastore, 1) := by decide +kernel
theorem dM_output_95 : decode cM_output 95 = .ok (.return_, 1) := by decide +kernel
theorem dM_one_0 : decode cM_one 0 = .ok (.aload_n 0, 1) := by decide +kernel
theorem dM_one_1 : decode cM_one 1 = .ok (.iconst 0, 1) := by decide +kernel
theorem dM_one_2 : decode cM_one 2 = .ok (.putfield 59, 3) := by decide +kernel
theorem dM_one_5 : decode cM_one 5 = .ok (.aload_n 0, 1) := by decide +kernel
theorem dM_one_6 : decode cM_one 6 = .ok (.iconst 0, 1) := by decide +kernel
theorem dM_one_7 : decode cM_one 7 = .ok (.putfield 80, 3) := by decide +kernel
theorem dM_one_10 : decode cM_one 10 = .ok (.aload_n 0, 1) := by decide +kernel
theorem dM_one_11 : decode cM_one 11 = .ok (.getfield 13, 3) := by decide +kernel
theorem dM_one_14 : decode cM_one 14 = .ok (.bipush 22, 2) := by decide +kernel
theorem dM_one_16 : decode cM_one 16 = .ok (.iaload, 1) := by decide +kernel
theorem dM_one_17 : decode cM_one 17 = .ok (.iconst 1, 1) := by decide +kernel
theorem dM_one_18 : decode cM_one 18 = .ok (.if_icmp .ne 28, 3) := by decide +kernel
theorem dM_one_21 : decode cM_one 21 = .ok (.aload_n 0, 1) := by decide +kernel
theorem dM_one_22 : decode cM_one 22 = .ok (.getfield 26, 3) := by decide +kernel
theorem dM_one_25 : decode cM_one 25 = .ok (.sipush 4096, 3) := by decide +kernel
theorem dM_one_28 : decode cM_one 28 = .ok (.irem, 1) := by decide +kernel
theorem dM_one_29 : decode cM_one 29 = .ok (.bipush 32, 2) := by decide +kernel
theorem dM_one_31 : decode cM_one 31 = .ok (.if_icmp .ge 15, 3) := by decide +kernel
theorem dM_one_34 : decode cM_one 34 = .ok (.aload_n 0, 1) := by decide +kernel
theorem dM_one_35 : decode cM_one 35 = .ok (.getfield 143, 3) := by decide +kernel
theorem dM_one_38 : decode cM_one 38 = .ok (.ifCond .ne 8, 3) := by decide +kernel
theorem dM_one_41 : decode cM_one 41 = .ok (.aload_n 0, 1) := by decide +kernel
theorem dM_one_42 : decode cM_one 42 = .ok (.invokevirtual 146, 3) := by decide +kernel
theorem dM_one_45 : decode cM_one 45 = .ok (.return_, 1) := by decide +kernel
theorem dM_one_46 : decode cM_one 46 = .ok (.aload_n 0, 1) := by decide +kernel
theorem dM_one_47 : decode cM_one 47 = .ok (.iconst 0, 1) := by decide +kernel
theorem dM_one_48 : decode cM_one 48 = .ok (.putfield 143, 3) := by decide +kernel
theorem dM_one_51 : decode cM_one 51 = .ok (.aload_n 0, 1) := by decide +kernel
theorem dM_one_52 : decode cM_one 52 = .ok (.getfield 13, 3) := by decide +kernel
theorem dM_one_55 : decode cM_one 55 = .ok (.bipush 25, 2) := by decide +kernel
theorem dM_one_57 : decode cM_one 57 = .ok (.iaload, 1) := by decide +kernel
theorem dM_one_58 : decode cM_one 58 = .ok (.iconst 1, 1) := by decide +kernel
theorem dM_one_59 : decode cM_one 59 = .ok (.if_icmp .ne 20, 3) := by decide +kernel
theorem dM_one_62 : decode cM_one 62 = .ok (.aload_n 0, 1) := by decide +kernel
theorem dM_one_63 : decode cM_one 63 = .ok (.aload_n 0, 1) := by decide +kernel
theorem dM_one_64 : decode cM_one 64 = .ok (.getfield 13, 3) := by decide +kernel
theorem dM_one_67 : decode cM_one 67 = .ok (.bipush 21, 2) := by decide +kernel
theorem dM_one_69 : decode cM_one 69 = .ok (.iaload, 1) := by decide +kernel
theorem dM_one_70 : decode cM_one 70 = .ok (.iconst 4, 1) := by decide +kernel
theorem dM_one_71 : decode cM_one 71 = .ok (.invokevirtual 40, 3) := by decide +kernel
theorem dM_one_74 : decode cM_one 74 = .ok (.aload_n 0, 1) := by decide +kernel
theorem dM_one_75 : decode cM_one 75 = .ok (.invokevirtual 45, 3) := by decide +kernel
theorem dM_one_78 : decode cM_one 78 = .ok (.return_, 1) := by decide +kernel
theorem dM_one_79 : decode cM_one 79 = .ok (.aload_n 0, 1) := by decide +kernel
theorem dM_one_80 : decode cM_one 80 = .ok (.invokevirtual 149, 3) := by decide +kernel
theorem dM_one_83 : decode cM_one 83 = .ok (.istore_n 1, 1) := by decide +kernel
theorem dM_one_84 : decode cM_one 84 = .ok (.iconst 0, 1) := by decide +kernel
theorem dM_one_85 : decode cM_one 85 = .ok (.istore_n 2, 1) := by decide +kernel
theorem dM_one_86 : decode cM_one 86 = .ok (.iload_n 1, 1) := by decide +kernel
theorem dM_one_87 : decode cM_one 87 = .ok (.sipush 221, 3) := by decide +kernel
theorem dM_one_90 : decode cM_one 90 = .ok (.if_icmp .eq 10, 3) := by decide +kernel
theorem dM_one_93 : decode cM_one 93 = .ok (.iload_n 1, 1) := by decide +kernel
theorem dM_one_94 : decode cM_one 94 = .ok (.sipush 253, 3) := by decide +kernel
theorem dM_one_97 : decode cM_one 97 = .ok (.if_icmp .ne 38, 3) := by decide +kernel
theorem dM_one_100 : decode cM_one 100 = .ok (.iinc 2 1, 3) := by decide +kernel
theorem dM_one_103 : decode cM_one 103 = .ok (.iload_n 2, 1) := by decide +kernel
theorem dM_one_104 : decode cM_one 104 = .ok (.iconst 4, 1) := by decide +kernel
theorem dM_one_105 : decode cM_one 105 = .ok (.if_icmp .ne 4, 3) := by decide +kernel
theorem dM_one_108 : decode cM_one 108 = .ok (.return_, 1) := by decide +kernel
theorem dM_one_109 : decode cM_one 109 = .ok (.aload_n 0, 1) := by decide +kernel
theorem dM_one_110 : decode cM_one 110 = .ok (.iload_n 1, 1) := by decide +kernel
theorem dM_one_111 : decode cM_one 111 = .ok (.sipush 221, 3) := by decide +kernel
theorem dM_one_114 : decode cM_one 114 = .ok (.if_icmp .ne 8, 3) := by decide +kernel
theorem dM_one_117 : decode cM_one 117 = .ok (.bipush 18, 2) := by decide +kernel
theorem dM_one_119 : decode cM_one 119 = .ok (.goto 5, 3) := by decide +kernel
theorem dM_one_122 : decode cM_one 122 = .ok (.bipush 19, 2) := by decide +kernel
theorem dM_one_124 : decode cM_one 124 = .ok (.putfield 59, 3) := by decide +kernel
theorem dM_one_127 : decode cM_one 127 = .ok (.aload_n 0, 1) := by decide +kernel
theorem dM_one_128 : decode cM_one 128 = .ok (.invokevirtual 149, 3) := by decide +kernel
theorem dM_one_131 : decode cM_one 131 = .ok (.istore_n 1, 1) := by decide +kernel
theorem dM_one_132 : decode cM_one 132 = .ok (.goto (-46), 3) := by decide +kernel
theorem dM_one_135 : decode cM_one 135 = .ok (.iload_n 1, 1) := by decide +kernel
theorem dM_one_136 : decode cM_one 136 = .ok (.sipush 237, 3) := by decide +kernel
theorem dM_one_139 : decode cM_one 139 = .ok (.if_icmp .ne 19, 3) := by decide +kernel
theorem dM_one_142 : decode cM_one 142 = .ok (.aload_n 0, 1) := by decide +kernel
theorem dM_one_143 : decode cM_one 143 = .ok (.iconst 0, 1) := by decide +kernel
theorem dM_one_144 : decode cM_one 144 = .ok (.putfield 59, 3) := by decide +kernel
theorem dM_one_147 : decode cM_one 147 = .ok (.aload_n 0, 1) := by decide +kernel
theorem dM_one_148 : decode cM_one 148 = .ok (.aload_n 0, 1) := by decide +kernel
theorem dM_one_149 : decode cM_one 149 = .ok (.invokevirtual 149, 3) := by decide +kernel
theorem dM_one_152 : decode cM_one 152 = .ok (.invokevirtual 152, 3) := by decide +kernel
theorem dM_one_155 : decode cM_one 155 = .ok (.goto 22, 3) := by decide +kernel
theorem dM_one_158 : decode cM_one 158 = .ok (.iload_n 1, 1) := by decide +kernel
theorem dM_one_159 : decode cM_one 159 = .ok (.sipush 203, 3) := by decide +kernel
theorem dM_one_162 : decode cM_one 162 = .ok (.if_icmp .ne 10, 3) := by decide +kernel
theorem dM_one_165 : decode cM_one 165 = .ok (.aload_n 0, 1) := by decide +kernel
theorem dM_one_166 : decode cM_one 166 = .ok (.invokevirtual 155, 3) := by decide +kernel
theorem dM_one_169 : decode cM_one 169 = .ok (.goto 8, 3) := by decide +kernel
theorem dM_one_172 : decode cM_one 172 = .ok (.aload_n 0, 1) := by decide +kernel
theorem dM_one_173 : decode cM_one 173 = .ok (.iload_n 1, 1) := by decide +kernel
theorem dM_one_174 : decode cM_one 174 = .ok (.invokevirtual 158, 3) := by decide +kernel
theorem dM_one_177 : decode cM_one 177 = .ok (.return_, 1) := by decide +kernel
theorem dM_interrupt_0 : decode cM_interrupt 0 = .ok (.aload_n 0, 1) := by decide +kernel
theorem dM_interrupt_1 : decode cM_interrupt 1 = .ok (.getfield 13, 3) := by decide +kernel
theorem dM_interrupt_4 : decode cM_interrupt 4 = .ok (.bipush 25, 2) := by decide +kernel
theorem dM_interrupt_6 : decode cM_interrupt 6 = .ok (.iconst 0, 1) := by decide +kernel
theorem dM_interrupt_7 : decode cM_interrupt 7 = .ok (.iastore, 1) := by decide +kernel
theorem dM_interrupt_8 : decode cM_interrupt 8 = .ok (.aload_n 0, 1) := by decide +kernel
theorem dM_interrupt_9 : decode cM_interrupt 9 = .ok (.getfield 13, 3) := by decide +kernel
theorem dM_interrupt_12 : decode cM_interrupt 12 = .ok (.bipush 22, 2) := by decide +kernel
theorem dM_interrupt_14 : decode cM_interrupt 14 = .ok (.iconst 0, 1) := by decide +kernel
theorem dM_interrupt_15 : decode cM_interrupt 15 = .ok (.iastore, 1) := by decide +kernel
theorem dM_interrupt_16 : decode cM_interrupt 16 = .ok (.aload_n 0, 1) := by decide +kernel
theorem dM_interrupt_17 : decode cM_interrupt 17 = .ok (.getfield 13, 3) := by decide +kernel
theorem dM_interrupt_20 : decode cM_interrupt 20 = .ok (.bipush 23, 2) := by decide +kernel
theorem dM_interrupt_22 : decode cM_interrupt 22 = .ok (.iconst 0, 1) := by decide +kernel
theorem dM_interrupt_23 : decode cM_interrupt 23 = .ok (.iastore, 1) := by decide +kernel
theorem dM_interrupt_24 : decode cM_interrupt 24 = .ok (.aload_n 0, 1) := by decide +kernel
theorem dM_interrupt_25 : decode cM_interrupt 25 = .ok (.invokevirtual 45, 3) := by decide +kernel
theorem dM_interrupt_28 : decode cM_interrupt 28 = .ok (.aload_n 0, 1) := by decide +kernel
theorem dM_interrupt_29 : decode cM_interrupt 29 = .ok (.iconst 4, 1) := by decide +kernel
theorem dM_interrupt_30 : decode cM_interrupt 30 = .ok (.invokevirtual 33, 3) := by decide +kernel
theorem dM_interrupt_33 : decode cM_interrupt 33 = .ok (.aload_n 0, 1) := by decide +kernel
theorem dM_interrupt_34 : decode cM_interrupt 34 = .ok (.aload_n 0, 1) := by decide +kernel
theorem dM_interrupt_35 : decode cM_interrupt 35 = .ok (.getfield 13, 3) := by decide +kernel
theorem dM_interrupt_38 : decode cM_interrupt 38 = .ok (.bipush 21, 2) := by decide +kernel
theorem dM_interrupt_40 : decode cM_interrupt 40 = .ok (.iaload, 1) := by decide +kernel
theorem dM_interrupt_41 : decode cM_interrupt 41 = .ok (.invokevirtual 161, 3) := by decide +kernel
theorem dM_interrupt_44 : decode cM_interrupt 44 = .ok (.aload_n 0, 1) := by decide +kernel
theorem dM_interrupt_45 : decode cM_interrupt 45 = .ok (.getfield 13, 3) := by decide +kernel
theorem dM_interrupt_48 : decode cM_interrupt 48 = .ok (.bipush 21, 2) := by decide +kernel
theorem dM_interrupt_50 : decode cM_interrupt 50 = .ok (.aload_n 0, 1) := by decide +kernel
theorem dM_interrupt_51 : decode cM_interrupt 51 = .ok (.getfield 13, 3) := by decide +kernel
theorem dM_interrupt_54 : decode cM_interrupt 54 = .ok (.bipush 24, 2) := by decide +kernel
theorem dM_interrupt_56 : decode cM_interrupt 56 = .ok (.iaload, 1) := by decide +kernel
theorem dM_interrupt_57 : decode cM_interrupt 57 = .ok (.iconst 2, 1) := by decide +kernel
theorem dM_interrupt_58 : decode cM_interrupt 58 = .ok (.if_icmp .ne 25, 3) := by decide +kernel
theorem dM_interrupt_61 : decode cM_interrupt 61 = .ok (.aload_n 0, 1) := by decide +kernel
theorem dM_interrupt_62 : decode cM_interrupt 62 = .ok (.sipush 256, 3) := by decide +kernel
theorem dM_interrupt_65 : decode cM_interrupt 65 = .ok (.aload_n 0, 1) := by decide +kernel
theorem dM_interrupt_66 : decode cM_interrupt 66 = .ok (.getfield 13, 3) := by decide +kernel
theorem dM_interrupt_69 : decode cM_interrupt 69 = .ok (.bipush 16, 2) := by decide +kernel
theorem dM_interrupt_71 : decode cM_interrupt 71 = .ok (.iaload, 1) := by decide +kernel
theorem dM_interrupt_72 : decode cM_interrupt 72 = .ok (.imul, 1) := by decide +kernel
theorem dM_interrupt_73 : decode cM_interrupt 73 = .ok (.sipush 255, 3) := by decide +kernel
theorem dM_interrupt_76 : decode cM_interrupt 76 = .ok (.iadd, 1) := by decide +kernel
theorem dM_interrupt_77 : decode cM_interrupt 77 = .ok (.invokevirtual 164, 3) := by decide +kernel
theorem dM_interrupt_80 : decode cM_interrupt 80 = .ok (.goto 5, 3) := by decide +kernel
theorem dM_interrupt_83 : decode cM_interrupt 83 = .ok (.bipush 56, 2) := by decide +kernel
theorem dM_interrupt_85 : decode cM_interrupt 85 = .ok (.iastore, 1) := by decide +kernel
theorem dM_interrupt_86 : decode cM_interrupt 86 = .ok (.return_, 1) := by decide +kernel
theorem dM_perform_0 : decode cM_perform 0 = .ok (.iload_n 1, 1) := by decide +kernel
theorem dM_perform_1 : decode cM_perform 1 = .ok (.bipush 6, 2) := by decide +kernel
theorem dM_perform_3 : decode cM_perform 3 = .ok (.ishr, 1) := by decide +kernel
theorem dM_perform_4 : decode cM_perform 4 = .ok (.istore_n 2, 1) := by decide +kernel
theorem dM_perform_5 : decode cM_perform 5 = .ok (.iload_n 1, 1) := by decide +kernel
theorem dM_perform_6 : decode cM_perform 6 = .ok (.iconst 3, 1) := by decide +kernel
theorem dM_perform_7 : decode cM_perform 7 = .ok (.ishr, 1) := by decide +kernel
theorem dM_perform_8 : decode cM_perform 8 = .ok (.bipush 7, 2) := by decide +kernel
theorem dM_perform_10 : decode cM_perform 10 = .ok (.iand, 1) := by decide +kernel
theorem dM_perform_11 : decode cM_perform 11 = .ok (.istore_n 3, 1) := by decide +kernel
theorem dM_perform_12 : decode cM_perform 12 = .ok (.iload_n 1, 1) := by decide +kernel
theorem dM_perform_13 : decode cM_perform 13 = .ok (.bipush 7, 2) := by decide +kernel
theorem dM_perform_15 : decode cM_perform 15 = .ok (.iand, 1) := by decide +kernel
theorem dM_perform_16 : decode cM_perform 16 = .ok (.istore 4, 2) := by decide +kernel
theorem dM_perform_18 : decode cM_perform 18 = .ok (.iload_n 2, 1) := by decide +kernel
theorem dM_perform_19 : decode cM_perform 19 = .ok (.ifCond .ne 13, 3) := by decide +kernel
theorem dM_perform_22 : decode cM_perform 22 = .ok (.aload_n 0, 1) := by decide +kernel
theorem dM_perform_23 : decode cM_perform 23 = .ok (.iload_n 3, 1) := by decide +kernel
theorem dM_perform_24 : decode cM_perform 24 = .ok (.iload 4, 2) := by decide +kernel
theorem dM_perform_26 : decode cM_perform 26 = .ok (.invokevirtual 167, 3) := by decide +kernel
theorem dM_perform_29 : decode cM_perform 29 = .ok (.goto 105, 3) := by decide +kernel
theorem dM_perform_32 : decode cM_perform 32 = .ok (.iload_n 2, 1) := by decide +kernel
theorem dM_perform_33 : decode cM_perform 33 = .ok (.iconst 1, 1) := by decide +kernel
theorem dM_perform_34 : decode cM_perform 34 = .ok (.if_icmp .ne 49, 3) := by decide +kernel
theorem dM_perform_37 : decode cM_perform 37 = .ok (.iload_n 1, 1) := by decide +kernel
theorem dM_perform_38 : decode cM_perform 38 = .ok (.bipush 118, 2) := by decide +kernel
theorem dM_perform_40 : decode cM_perform 40 = .ok (.if_icmp .ne 12, 3) := by decide +kernel
theorem dM_perform_43 : decode cM_perform 43 = .ok (.aload_n 0, 1) := by decide +kernel
theorem dM_perform_44 : decode cM_perform 44 = .ok (.getfield 13, 3) := by decide +kernel
theorem dM_perform_47 : decode cM_perform 47 = .ok (.bipush 25, 2) := by decide +kernel
theorem dM_perform_49 : decode cM_perform 49 = .ok (.iconst 1, 1) := by decide +kernel
theorem dM_perform_50 : decode cM_perform 50 = .ok (.iastore, 1) := by decide +kernel
theorem dM_perform_51 : decode cM_perform 51 = .ok (.return_, 1) := by decide +kernel
theorem dM_perform_52 : decode cM_perform 52 = .ok (.iload_n 3, 1) := by decide +kernel
theorem dM_perform_53 : decode cM_perform 53 = .ok (.bipush 6, 2) := by decide +kernel
theorem dM_perform_55 : decode cM_perform 55 = .ok (.if_icmp .eq 10, 3) := by decide +kernel
theorem dM_perform_58 : decode cM_perform 58 = .ok (.iload 4, 2) := by decide +kernel
theorem dM_perform_60 : decode cM_perform 60 = .ok (.bipush 6, 2) := by decide +kernel
theorem dM_perform_62 : decode cM_perform 62 = .ok (.if_icmp .ne 7, 3) := by decide +kernel
theorem dM_perform_65 : decode cM_perform 65 = .ok (.aload_n 0, 1) := by decide +kernel
theorem dM_perform_66 : decode cM_perform 66 = .ok (.invokevirtual 170, 3) := by decide +kernel
theorem dM_perform_69 : decode cM_perform 69 = .ok (.aload_n 0, 1) := by decide +kernel
theorem dM_perform_70 : decode cM_perform 70 = .ok (.iload_n 3, 1) := by decide +kernel
theorem dM_perform_71 : decode cM_perform 71 = .ok (.aload_n 0, 1) := by decide +kernel
theorem dM_perform_72 : decode cM_perform 72 = .ok (.iload 4, 2) := by decide +kernel
theorem dM_perform_74 : decode cM_perform 74 = .ok (.invokevirtual 173, 3) := by decide +kernel
theorem dM_perform_77 : decode cM_perform 77 = .ok (.invokevirtual 176, 3) := by decide +kernel
theorem dM_perform_80 : decode cM_perform 80 = .ok (.goto 54, 3) := by decide +kernel
theorem dM_perform_83 : decode cM_perform 83 = .ok (.iload_n 2, 1) := by decide +kernel
theorem dM_perform_84 : decode cM_perform 84 = .ok (.iconst 2, 1) := by decide +kernel
theorem dM_perform_85 : decode cM_perform 85 = .ok (.if_icmp .ne 28, 3) := by decide +kernel
theorem dM_perform_88 : decode cM_perform 88 = .ok (.iload 4, 2) := by decide +kernel
theorem dM_perform_90 : decode cM_perform 90 = .ok (.bipush 6, 2) := by decide +kernel
theorem dM_perform_92 : decode cM_perform 92 = .ok (.if_icmp .ne 7, 3) := by decide +kernel
theorem dM_perform_95 : decode cM_perform 95 = .ok (.aload_n 0, 1) := by decide +kernel
theorem dM_perform_96 : decode cM_perform 96 = .ok (.invokevirtual 170, 3) := by decide +kernel
theorem dM_perform_99 : decode cM_perform 99 = .ok (.aload_n 0, 1) := by decide +kernel
theorem dM_perform_100 : decode cM_perform 100 = .ok (.iload_n 3, 1) := by decide +kernel
theorem dM_perform_101 : decode cM_perform 101 = .ok (.aload_n 0, 1) := by decide +kernel
theorem dM_perform_102 : decode cM_perform 102 = .ok (.iload 4, 2) := by decide +kernel
theorem dM_perform_104 : decode cM_perform 104 = .ok (.invokevirtual 173, 3) := by decide +kernel
theorem dM_perform_107 : decode cM_perform 107 = .ok (.invokevirtual 179, 3) := by decide +kernel
theorem dM_perform_110 : decode cM_perform 110 = .ok (.goto 24, 3) := by decide +kernel
theorem dM_perform_113 : decode cM_perform 113 = .ok (.iload 4, 2) := by decide +kernel
theorem dM_perform_115 : decode cM_perform 115 = .ok (.iconst 3, 1) := by decide +kernel
theorem dM_perform_116 : decode cM_perform 116 = .ok (.if_icmp .ne 11, 3) := by decide +kernel
theorem dM_perform_119 : decode cM_perform 119 = .ok (.aload_n 0, 1) := by decide +kernel
theorem dM_perform_120 : decode cM_perform 120 = .ok (.iload_n 3, 1) := by decide +kernel
theorem dM_perform_121 : decode cM_perform 121 = .ok (.invokevirtual 182, 3) := by decide +kernel
theorem dM_perform_124 : decode cM_perform 124 = .ok (.goto 10, 3) := by decide +kernel
theorem dM_perform_127 : decode cM_perform 127 = .ok (.aload_n 0, 1) := by decide +kernel
theorem dM_perform_128 : decode cM_perform 128 = .ok (.iload_n 3, 1) := by decide +kernel
theorem dM_perform_129 : decode cM_perform 129 = .ok (.iload 4, 2) := by decide +kernel
theorem dM_perform_131 : decode cM_perform 131 = .ok (.invokevirtual 185, 3) := by decide +kernel
theorem dM_perform_134 : decode cM_perform 134 = .ok (.return_, 1) := by decide +kernel
theorem dM_first_0 : decode cM_first 0 = .ok (.iload_n 1, 1) := by decide +kernel
theorem dM_first_1 : decode cM_first 1 = .ok (.iconst 1, 1) := by decide +kernel
theorem dM_first_2 : decode cM_first 2 = .ok (.ishr, 1) := by decide +kernel
theorem dM_first_3 : decode cM_first 3 = .ok (.istore_n 3, 1) := by decide +kernel
theorem dM_first_4 : decode cM_first 4 = .ok (.iload_n 1, 1) := by decide +kernel
theorem dM_first_5 : decode cM_first 5 = .ok (.iconst 2, 1) := by decide +kernel
theorem dM_first_6 : decode cM_first 6 = .ok (.irem, 1) := by decide +kernel
theorem dM_first_7 : decode cM_first 7 = .ok (.iconst 1, 1) := by decide +kernel
theorem dM_first_8 : decode cM_first 8 = .ok (.if_icmp .ne 7, 3) := by decide +kernel
theorem dM_first_11 : decode cM_first 11 = .ok (.iconst 1, 1) := by decide +kernel
theorem dM_first_12 : decode cM_first 12 = .ok (.goto 4, 3) := by decide +kernel
theorem dM_first_15 : decode cM_first 15 = .ok (.iconst 0, 1) := by decide +kernel
theorem dM_first_16 : decode cM_first 16 = .ok (.istore 4, 2) := by decide +kernel
theorem dM_first_18 : decode cM_first 18 = .ok (.iload_n 2, 1) := by decide +kernel
theorem dM_first_19 : decode cM_first 19 = .ok (.ifCond .ne 11, 3) := by decide +kernel
theorem dM_first_22 : decode cM_first 22 = .ok (.aload_n 0, 1) := by decide +kernel
theorem dM_first_23 : decode cM_first 23 = .ok (.iload_n 1, 1) := by decide +kernel
theorem dM_first_24 : decode cM_first 24 = .ok (.invokevirtual 188, 3) := by decide +kernel
theorem dM_first_27 : decode cM_first 27 = .ok (.goto 148, 3) := by decide +kernel
theorem dM_first_30 : decode cM_first 30 = .ok (.iload_n 2, 1) := by decide +kernel
theorem dM_first_31 : decode cM_first 31 = .ok (.iconst 1, 1) := by decide +kernel
theorem dM_first_32 : decode cM_first 32 = .ok (.if_icmp .ne 32, 3) := by decide +kernel
theorem dM_first_35 : decode cM_first 35 = .ok (.iload 4, 2) := by decide +kernel
theorem dM_first_37 : decode cM_first 37 = .ok (.ifCond .eq 15, 3) := by decide +kernel
theorem dM_first_40 : decode cM_first 40 = .ok (.aload_n 0, 1) := by decide +kernel
theorem dM_first_41 : decode cM_first 41 = .ok (.aload_n 0, 1) := by decide +kernel
theorem dM_first_42 : decode cM_first 42 = .ok (.iload_n 3, 1) := by decide +kernel
theorem dM_first_43 : decode cM_first 43 = .ok (.invokevirtual 191, 3) := by decide +kernel
theorem dM_first_46 : decode cM_first 46 = .ok (.invokevirtual 194, 3) := by decide +kernel
theorem dM_first_49 : decode cM_first 49 = .ok (.goto 126, 3) := by decide +kernel
theorem dM_first_52 : decode cM_first 52 = .ok (.aload_n 0, 1) := by decide +kernel
theorem dM_first_53 : decode cM_first 53 = .ok (.iload_n 3, 1) := by decide +kernel
theorem dM_first_54 : decode cM_first 54 = .ok (.aload_n 0, 1) := by decide +kernel
theorem dM_first_55 : decode cM_first 55 = .ok (.invokevirtual 197, 3) := by decide +kernel
theorem dM_first_58 : decode cM_first 58 = .ok (.invokevirtual 200, 3) := by decide +kernel
theorem dM_first_61 : decode cM_first 61 = .ok (.goto 114, 3) := by decide +kernel
theorem dM_first_64 : decode cM_first 64 = .ok (.iload_n 2, 1) := by decide +kernel
theorem dM_first_65 : decode cM_first 65 = .ok (.iconst 2, 1) := by decide +kernel
theorem dM_first_66 : decode cM_first 66 = .ok (.if_icmp .ne 13, 3) := by decide +kernel
theorem dM_first_69 : decode cM_first 69 = .ok (.aload_n 0, 1) := by decide +kernel
theorem dM_first_70 : decode cM_first 70 = .ok (.iload_n 3, 1) := by decide +kernel
theorem dM_first_71 : decode cM_first 71 = .ok (.iload 4, 2) := by decide +kernel
theorem dM_first_73 : decode cM_first 73 = .ok (.invokevirtual 203, 3) := by decide +kernel
theorem dM_first_76 : decode cM_first 76 = .ok (.goto 99, 3) := by decide +kernel
theorem dM_first_79 : decode cM_first 79 = .ok (.iload_n 2, 1) := by decide +kernel
theorem dM_first_80 : decode cM_first 80 = .ok (.iconst 3, 1) := by decide +kernel
theorem dM_first_81 : decode cM_first 81 = .ok (.if_icmp .ne 33, 3) := by decide +kernel
theorem dM_first_84 : decode cM_first 84 = .ok (.aload_n 0, 1) := by decide +kernel
theorem dM_first_85 : decode cM_first 85 = .ok (.iload_n 3, 1) := by decide +kernel
theorem dM_first_86 : decode cM_first 86 = .ok (.iload 4, 2) := by decide +kernel
theorem dM_first_88 : decode cM_first 88 = .ok (.ifCond .eq 13, 3) := by decide +kernel
theorem dM_first_91 : decode cM_first 91 = .ok (.aload_n 0, 1) := by decide +kernel
theorem dM_first_92 : decode cM_first 92 = .ok (.iload_n 3, 1) := by decide +kernel
theorem dM_first_93 : decode cM_first 93 = .ok (.invokevirtual 191, 3) := by decide +kernel
theorem dM_first_96 : decode cM_first 96 = .ok (.iconst 1, 1) := by decide +kernel
theorem dM_first_97 : decode cM_first 97 = .ok (.isub, 1) := by decide +kernel
theorem dM_first_98 : decode cM_first 98 = .ok (.goto 10, 3) := by decide +kernel
theorem dM_first_101 : decode cM_first 101 = .ok (.aload_n 0, 1) := by decide +kernel
theorem dM_first_102 : decode cM_first 102 = .ok (.iload_n 3, 1) := by decide +kernel
theorem dM_first_103 : decode cM_first 103 = .ok (.invokevirtual 191, 3) := by decide +kernel
theorem dM_first_106 : decode cM_first 106 = .ok (.iconst 1, 1) := by decide +kernel
theorem dM_first_107 : decode cM_first 107 = .ok (.iadd, 1) := by decide +kernel
theorem dM_first_108 : decode cM_first 108 = .ok (.invokevirtual 200, 3) := by decide +kernel
theorem dM_first_111 : decode cM_first 111 = .ok (.goto 64, 3) := by decide +kernel
theorem dM_first_114 : decode cM_first 114 = .ok (.iload_n 2, 1) := by decide +kernel
theorem dM_first_115 : decode cM_first 115 = .ok (.bipush 7, 2) := by decide +kernel
theorem dM_first_117 : decode cM_first 117 = .ok (.if_icmp .ne 11, 3) := by decide +kernel
theorem dM_first_120 : decode cM_first 120 = .ok (.aload_n 0, 1) := by decide +kernel
theorem dM_first_121 : decode cM_first 121 = .ok (.iload_n 1, 1) := by decide +kernel
theorem dM_first_122 : decode cM_first 122 = .ok (.invokevirtual 207, 3) := by decide +kernel
theorem dM_first_125 : decode cM_first 125 = .ok (.goto 50, 3) := by decide +kernel
theorem dM_first_128 : decode cM_first 128 = .ok (.iload_n 1, 1) := by decide +kernel
theorem dM_first_129 : decode cM_first 129 = .ok (.bipush 6, 2) := by decide +kernel
theorem dM_first_131 : decode cM_first 131 = .ok (.if_icmp .ne 7, 3) := by decide +kernel
theorem dM_first_134 : decode cM_first 134 = .ok (.aload_n 0, 1) := by decide +kernel
theorem dM_first_135 : decode cM_first 135 = .ok (.invokevirtual 170, 3) := by decide +kernel
theorem dM_first_138 : decode cM_first 138 = .ok (.aload_n 0, 1) := by decide +kernel
theorem dM_first_139 : decode cM_first 139 = .ok (.iload_n 1, 1) := by decide +kernel
theorem dM_first_140 : decode cM_first 140 = .ok (.iload_n 2, 1) := by decide +kernel
theorem dM_first_141 : decode cM_first 141 = .ok (.bipush 6, 2) := by decide +kernel
theorem dM_first_143 : decode cM_first 143 = .ok (.if_icmp .ne 10, 3) := by decide +kernel
theorem dM_first_146 : decode cM_first 146 = .ok (.aload_n 0, 1) := by decide +kernel
theorem dM_first_147 : decode cM_first 147 = .ok (.invokevirtual 52, 3) := by decide +kernel
theorem dM_first_150 : decode cM_first 150 = .ok (.goto 22, 3) := by decide +kernel
theorem dM_first_153 : decode cM_first 153 = .ok (.aload_n 0, 1) := by decide +kernel
theorem dM_first_154 : decode cM_first 154 = .ok (.aload_n 0, 1) := by decide +kernel
theorem dM_first_155 : decode cM_first 155 = .ok (.iload_n 1, 1) := by decide +kernel
theorem dM_first_156 : decode cM_first 156 = .ok (.invokevirtual 173, 3) := by decide +kernel
theorem dM_first_159 : decode cM_first 159 = .ok (.iload_n 2, 1) := by decide +kernel
theorem dM_first_160 : decode cM_first 160 = .ok (.iconst 4, 1) := by decide +kernel
theorem dM_first_161 : decode cM_first 161 = .ok (.if_icmp .ne 7, 3) := by decide +kernel
theorem dM_first_164 : decode cM_first 164 = .ok (.iconst 1, 1) := by decide +kernel
theorem dM_first_165 : decode cM_first 165 = .ok (.goto 4, 3) := by decide +kernel
theorem dM_first_168 : decode cM_first 168 = .ok (.iconst 0, 1) := by decide +kernel
theorem dM_first_169 : decode cM_first 169 = .ok (.invokevirtual 210, 3) := by decide +kernel
theorem dM_first_172 : decode cM_first 172 = .ok (.invokevirtual 176, 3) := by decide +kernel
theorem dM_first_175 : decode cM_first 175 = .ok (.return_, 1) := by decide +kernel
theorem dM_jump_0 : decode cM_jump 0 = .ok (.iload_n 1, 1) := by decide +kernel
theorem dM_jump_1 : decode cM_jump 1 = .ok (.ifCond .ne 4, 3) := by decide +kernel
theorem dM_jump_4 : decode cM_jump 4 = .ok (.return_, 1) := by decide +kernel
theorem dM_jump_5 : decode cM_jump 5 = .ok (.iload_n 1, 1) := by decide +kernel
theorem dM_jump_6 : decode cM_jump 6 = .ok (.iconst 1, 1) := by decide +kernel
theorem dM_jump_7 : decode cM_jump 7 = .ok (.if_icmp .ne 18, 3) := by decide +kernel
theorem dM_jump_10 : decode cM_jump 10 = .ok (.aload_n 0, 1) := by decide +kernel
theorem dM_jump_11 : decode cM_jump 11 = .ok (.iconst 0, 1) := by decide +kernel
theorem dM_jump_12 : decode cM_jump 12 = .ok (.bipush 8, 2) := by decide +kernel
theorem dM_jump_14 : decode cM_jump 14 = .ok (.invokevirtual 214, 3) := by decide +kernel
theorem dM_jump_17 : decode cM_jump 17 = .ok (.aload_n 0, 1) := by decide +kernel
theorem dM_jump_18 : decode cM_jump 18 = .ok (.iconst 1, 1) := by decide +kernel
theorem dM_jump_19 : decode cM_jump 19 = .ok (.bipush 9, 2) := by decide +kernel
theorem dM_jump_21 : decode cM_jump 21 = .ok (.invokevirtual 214, 3) := by decide +kernel
theorem dM_jump_24 : decode cM_jump 24 = .ok (.return_, 1) := by decide +kernel
theorem dM_jump_25 : decode cM_jump 25 = .ok (.iload_n 1, 1) := by decide +kernel
theorem dM_jump_26 : decode cM_jump 26 = .ok (.iconst 2, 1) := by decide +kernel
theorem dM_jump_27 : decode cM_jump 27 = .ok (.if_icmp .ne 21, 3) := by decide +kernel
theorem dM_jump_30 : decode cM_jump 30 = .ok (.aload_n 0, 1) := by decide +kernel
theorem dM_jump_31 : decode cM_jump 31 = .ok (.getfield 13, 3) := by decide +kernel
theorem dM_jump_34 : decode cM_jump 34 = .ok (.iconst 2, 1) := by decide +kernel
theorem dM_jump_35 : decode cM_jump 35 = .ok (.aload_n 0, 1) := by decide +kernel
theorem dM_jump_36 : decode cM_jump 36 = .ok (.getfield 13, 3) := by decide +kernel
theorem dM_jump_39 : decode cM_jump 39 = .ok (.iconst 2, 1) := by decide +kernel
theorem dM_jump_40 : decode cM_jump 40 = .ok (.iaload, 1) := by decide +kernel
theorem dM_jump_41 : decode cM_jump 41 = .ok (.iconst 1, 1) := by decide +kernel
theorem dM_jump_42 : decode cM_jump 42 = .ok (.isub, 1) := by decide +kernel
theorem dM_jump_43 : decode cM_jump 43 = .ok (.sipush 255, 3) := by decide +kernel
theorem dM_jump_46 : decode cM_jump 46 = .ok (.iand, 1) := by decide +kernel
theorem dM_jump_47 : decode cM_jump 47 = .ok (.iastore, 1) := by decide +kernel
theorem dM_jump_48 : decode cM_jump 48 = .ok (.aload_n 0, 1) := by decide +kernel
theorem dM_jump_49 : decode cM_jump 49 = .ok (.invokevirtual 52, 3) := by decide +kernel
theorem dM_jump_52 : decode cM_jump 52 = .ok (.invokestatic 74, 3) := by decide +kernel
theorem dM_jump_55 : decode cM_jump 55 = .ok (.istore_n 2, 1) := by decide +kernel
theorem dM_jump_56 : decode cM_jump 56 = .ok (.iload_n 1, 1) := by decide +kernel
theorem dM_jump_57 : decode cM_jump 57 = .ok (.iconst 2, 1) := by decide +kernel
theorem dM_jump_58 : decode cM_jump 58 = .ok (.if_icmp .ne 15, 3) := by decide +kernel
theorem dM_jump_61 : decode cM_jump 61 = .ok (.aload_n 0, 1) := by decide +kernel
theorem dM_jump_62 : decode cM_jump 62 = .ok (.getfield 13, 3) := by decide +kernel
theorem dM_jump_65 : decode cM_jump 65 = .ok (.iconst 2, 1) := by decide +kernel
theorem dM_jump_66 : decode cM_jump 66 = .ok (.iaload, 1) := by decide +kernel
theorem dM_jump_67 : decode cM_jump 67 = .ok (.ifCond .eq 40, 3) := by decide +kernel
theorem dM_jump_70 : decode cM_jump 70 = .ok (.goto 18, 3) := by decide +kernel
theorem dM_jump_73 : decode cM_jump 73 = .ok (.iload_n 1, 1) := by decide +kernel
theorem dM_jump_74 : decode cM_jump 74 = .ok (.iconst 3, 1) := by decide +kernel
theorem dM_jump_75 : decode cM_jump 75 = .ok (.if_icmp .eq 13, 3) := by decide +kernel
theorem dM_jump_78 : decode cM_jump 78 = .ok (.aload_n 0, 1) := by decide +kernel
theorem dM_jump_79 : decode cM_jump 79 = .ok (.iload_n 1, 1) := by decide +kernel
theorem dM_jump_80 : decode cM_jump 80 = .ok (.iconst 4, 1) := by decide +kernel
theorem dM_jump_81 : decode cM_jump 81 = .ok (.isub, 1) := by decide +kernel
theorem dM_jump_82 : decode cM_jump 82 = .ok (.invokevirtual 217, 3) := by decide +kernel
theorem dM_jump_85 : decode cM_jump 85 = .ok (.ifCond .eq 22, 3) := by decide +kernel
theorem dM_jump_88 : decode cM_jump 88 = .ok (.aload_n 0, 1) := by decide +kernel
theorem dM_jump_89 : decode cM_jump 89 = .ok (.getfield 13, 3) := by decide +kernel
theorem dM_jump_92 : decode cM_jump 92 = .ok (.bipush 21, 2) := by decide +kernel
theorem dM_jump_94 : decode cM_jump 94 = .ok (.aload_n 0, 1) := by decide +kernel
theorem dM_jump_95 : decode cM_jump 95 = .ok (.getfield 13, 3) := by decide +kernel
theorem dM_jump_98 : decode cM_jump 98 = .ok (.bipush 21, 2) := by decide +kernel
theorem dM_jump_100 : decode cM_jump 100 = .ok (.iaload, 1) := by decide +kernel
theorem dM_jump_101 : decode cM_jump 101 = .ok (.iload_n 2, 1) := by decide +kernel
theorem dM_jump_102 : decode cM_jump 102 = .ok (.iadd, 1) := by decide +kernel
theorem dM_jump_103 : decode cM_jump 103 = .ok (.ldc 44, 2) := by decide +kernel
theorem dM_jump_105 : decode cM_jump 105 = .ok (.iand, 1) := by decide +kernel
theorem dM_jump_106 : decode cM_jump 106 = .ok (.iastore, 1) := by decide +kernel
theorem dM_jump_107 : decode cM_jump 107 = .ok (.return_, 1) := by decide +kernel
theorem dM_add_0 : decode cM_add 0 = .ok (.aload_n 0, 1) := by decide +kernel
theorem dM_add_1 : decode cM_add 1 = .ok (.aload_n 0, 1) := by decide +kernel
theorem dM_add_2 : decode cM_add 2 = .ok (.invokevirtual 68, 3) := by decide +kernel
theorem dM_add_5 : decode cM_add 5 = .ok (.iload_n 1, 1) := by decide +kernel
theorem dM_add_6 : decode cM_add 6 = .ok (.iconst 0, 1) := by decide +kernel
theorem dM_add_7 : decode cM_add 7 = .ok (.bipush 16, 2) := by decide +kernel
theorem dM_add_9 : decode cM_add 9 = .ok (.invokevirtual 94, 3) := by decide +kernel
theorem dM_add_12 : decode cM_add 12 = .ok (.istore_n 2, 1) := by decide +kernel
theorem dM_add_13 : decode cM_add 13 = .ok (.aload_n 0, 1) := by decide +kernel
theorem dM_add_14 : decode cM_add 14 = .ok (.iload_n 2, 1) := by decide +kernel
theorem dM_add_15 : decode cM_add 15 = .ok (.invokevirtual 71, 3) := by decide +kernel
theorem dM_add_18 : decode cM_add 18 = .ok (.aload_n 0, 1) := by decide +kernel
theorem dM_add_19 : decode cM_add 19 = .ok (.getfield 13, 3) := by decide +kernel
theorem dM_add_22 : decode cM_add 22 = .ok (.iconst 1, 1) := by decide +kernel
theorem dM_add_23 : decode cM_add 23 = .ok (.aload_n 0, 1) := by decide +kernel
theorem dM_add_24 : decode cM_add 24 = .ok (.getfield 13, 3) := by decide +kernel
theorem dM_add_27 : decode cM_add 27 = .ok (.iconst 1, 1) := by decide +kernel
theorem dM_add_28 : decode cM_add 28 = .ok (.iaload, 1) := by decide +kernel
theorem dM_add_29 : decode cM_add 29 = .ok (.sipush 196, 3) := by decide +kernel
theorem dM_add_32 : decode cM_add 32 = .ok (.iand, 1) := by decide +kernel
theorem dM_add_33 : decode cM_add 33 = .ok (.iload_n 2, 1) := by decide +kernel
theorem dM_add_34 : decode cM_add 34 = .ok (.bipush 8, 2) := by decide +kernel
theorem dM_add_36 : decode cM_add 36 = .ok (.ishr, 1) := by decide +kernel
theorem dM_add_37 : decode cM_add 37 = .ok (.bipush 40, 2) := by decide +kernel
theorem dM_add_39 : decode cM_add 39 = .ok (.iand, 1) := by decide +kernel
theorem dM_add_40 : decode cM_add 40 = .ok (.ior, 1) := by decide +kernel
theorem dM_add_41 : decode cM_add 41 = .ok (.aload_n 0, 1) := by decide +kernel
theorem dM_add_42 : decode cM_add 42 = .ok (.iconst 0, 1) := by decide +kernel
theorem dM_add_43 : decode cM_add 43 = .ok (.invokevirtual 101, 3) := by decide +kernel
theorem dM_add_46 : decode cM_add 46 = .ok (.bipush (-5), 2) := by decide +kernel
theorem dM_add_48 : decode cM_add 48 = .ok (.iand, 1) := by decide +kernel
theorem dM_add_49 : decode cM_add 49 = .ok (.ior, 1) := by decide +kernel
theorem dM_add_50 : decode cM_add 50 = .ok (.iastore, 1) := by decide +kernel
theorem dM_add_51 : decode cM_add 51 = .ok (.return_, 1) := by decide +kernel
theorem dM_store_0 : decode cM_store 0 = .ok (.iload_n 1, 1) := by decide +kernel
theorem dM_store_1 : decode cM_store 1 = .ok (.iconst 2, 1) := by decide +kernel
theorem dM_store_2 : decode cM_store 2 = .ok (.if_icmp .ge 49, 3) := by decide +kernel
theorem dM_store_5 : decode cM_store 5 = .ok (.iload_n 2, 1) := by decide +kernel
theorem dM_store_6 : decode cM_store 6 = .ok (.ifCond .eq 25, 3) := by decide +kernel
theorem dM_store_9 : decode cM_store 9 = .ok (.aload_n 0, 1) := by decide +kernel
theorem dM_store_10 : decode cM_store 10 = .ok (.getfield 13, 3) := by decide +kernel
theorem dM_store_13 : decode cM_store 13 = .ok (.iconst 0, 1) := by decide +kernel
theorem dM_store_14 : decode cM_store 14 = .ok (.aload_n 0, 1) := by decide +kernel
theorem dM_store_15 : decode cM_store 15 = .ok (.aload_n 0, 1) := by decide +kernel
theorem dM_store_16 : decode cM_store 16 = .ok (.iconst 2, 1) := by decide +kernel
theorem dM_store_17 : decode cM_store 17 = .ok (.iconst 2, 1) := by decide +kernel
theorem dM_store_18 : decode cM_store 18 = .ok (.iload_n 1, 1) := by decide +kernel
theorem dM_store_19 : decode cM_store 19 = .ok (.imul, 1) := by decide +kernel
theorem dM_store_20 : decode cM_store 20 = .ok (.iadd, 1) := by decide +kernel
theorem dM_store_21 : decode cM_store 21 = .ok (.invokevirtual 62, 3) := by decide +kernel
theorem dM_store_24 : decode cM_store 24 = .ok (.invokevirtual 48, 3) := by decide +kernel
theorem dM_store_27 : decode cM_store 27 = .ok (.iastore, 1) := by decide +kernel
theorem dM_store_28 : decode cM_store 28 = .ok (.goto 22, 3) := by decide +kernel
theorem dM_store_31 : decode cM_store 31 = .ok (.aload_n 0, 1) := by decide +kernel
theorem dM_store_32 : decode cM_store 32 = .ok (.aload_n 0, 1) := by decide +kernel
theorem dM_store_33 : decode cM_store 33 = .ok (.iconst 2, 1) := by decide +kernel
theorem dM_store_34 : decode cM_store 34 = .ok (.iconst 2, 1) := by decide +kernel
theorem dM_store_35 : decode cM_store 35 = .ok (.iload_n 1, 1) := by decide +kernel
theorem dM_store_36 : decode cM_store 36 = .ok (.imul, 1) := by decide +kernel
theorem dM_store_37 : decode cM_store 37 = .ok (.iadd, 1) := by decide +kernel
theorem dM_store_38 : decode cM_store 38 = .ok (.invokevirtual 62, 3) := by decide +kernel
theorem dM_store_41 : decode cM_store 41 = .ok (.aload_n 0, 1) := by decide +kernel
theorem dM_store_42 : decode cM_store 42 = .ok (.getfield 13, 3) := by decide +kernel
theorem dM_store_45 : decode cM_store 45 = .ok (.iconst 0, 1) := by decide +kernel
theorem dM_store_46 : decode cM_store 46 = .ok (.iaload, 1) := by decide +kernel
theorem dM_store_47 : decode cM_store 47 = .ok (.invokevirtual 56, 3) := by decide +kernel
theorem dM_store_50 : decode cM_store 50 = .ok (.return_, 1) := by decide +kernel
theorem dM_store_51 : decode cM_store 51 = .ok (.aload_n 0, 1) := by decide +kernel
theorem dM_store_52 : decode cM_store 52 = .ok (.invokevirtual 197, 3) := by decide +kernel
theorem dM_store_55 : decode cM_store 55 = .ok (.istore_n 3, 1) := by decide +kernel
theorem dM_store_56 : decode cM_store 56 = .ok (.iload_n 1, 1) := by decide +kernel
theorem dM_store_57 : decode cM_store 57 = .ok (.iconst 2, 1) := by decide +kernel
theorem dM_store_58 : decode cM_store 58 = .ok (.if_icmp .ne 19, 3) := by decide +kernel
theorem dM_store_61 : decode cM_store 61 = .ok (.iload_n 2, 1) := by decide +kernel
theorem dM_store_62 : decode cM_store 62 = .ok (.ifCond .eq 15, 3) := by decide +kernel
theorem dM_store_65 : decode cM_store 65 = .ok (.aload_n 0, 1) := by decide +kernel
theorem dM_store_66 : decode cM_store 66 = .ok (.aload_n 0, 1) := by decide +kernel
theorem dM_store_67 : decode cM_store 67 = .ok (.iload_n 3, 1) := by decide +kernel
theorem dM_store_68 : decode cM_store 68 = .ok (.invokevirtual 164, 3) := by decide +kernel
theorem dM_store_71 : decode cM_store 71 = .ok (.invokevirtual 71, 3) := by decide +kernel
theorem dM_store_74 : decode cM_store 74 = .ok (.goto 49, 3) := by decide +kernel
theorem dM_store_77 : decode cM_store 77 = .ok (.iload_n 1, 1) := by decide +kernel
theorem dM_store_78 : decode cM_store 78 = .ok (.iconst 2, 1) := by decide +kernel
theorem dM_store_79 : decode cM_store 79 = .ok (.if_icmp .ne 15, 3) := by decide +kernel
theorem dM_store_82 : decode cM_store 82 = .ok (.aload_n 0, 1) := by decide +kernel
theorem dM_store_83 : decode cM_store 83 = .ok (.iload_n 3, 1) := by decide +kernel
theorem dM_store_84 : decode cM_store 84 = .ok (.aload_n 0, 1) := by decide +kernel
theorem dM_store_85 : decode cM_store 85 = .ok (.invokevirtual 68, 3) := by decide +kernel
theorem dM_store_88 : decode cM_store 88 = .ok (.invokevirtual 221, 3) := by decide +kernel
theorem dM_store_91 : decode cM_store 91 = .ok (.goto 32, 3) := by decide +kernel
theorem dM_store_94 : decode cM_store 94 = .ok (.iload_n 2, 1) := by decide +kernel
theorem dM_store_95 : decode cM_store 95 = .ok (.ifCond .eq 17, 3) := by decide +kernel
theorem dM_store_98 : decode cM_store 98 = .ok (.aload_n 0, 1) := by decide +kernel
theorem dM_store_99 : decode cM_store 99 = .ok (.getfield 13, 3) := by decide +kernel
theorem dM_store_102 : decode cM_store 102 = .ok (.iconst 0, 1) := by decide +kernel
theorem dM_store_103 : decode cM_store 103 = .ok (.aload_n 0, 1) := by decide +kernel
theorem dM_store_104 : decode cM_store 104 = .ok (.iload_n 3, 1) := by decide +kernel
theorem dM_store_105 : decode cM_store 105 = .ok (.invokevirtual 48, 3) := by decide +kernel
theorem dM_store_108 : decode cM_store 108 = .ok (.iastore, 1) := by decide +kernel
theorem dM_store_109 : decode cM_store 109 = .ok (.goto 14, 3) := by decide +kernel
theorem dM_store_112 : decode cM_store 112 = .ok (.aload_n 0, 1) := by decide +kernel
theorem dM_store_113 : decode cM_store 113 = .ok (.iload_n 3, 1) := by decide +kernel
theorem dM_store_114 : decode cM_store 114 = .ok (.aload_n 0, 1) := by decide +kernel
theorem dM_store_115 : decode cM_store 115 = .ok (.getfield 13, 3) := by decide +kernel
theorem dM_store_118 : decode cM_store 118 = .ok (.iconst 0, 1) := by decide +kernel
theorem dM_store_119 : decode cM_store 119 = .ok (.iaload, 1) := by decide +kernel
theorem dM_store_120 : decode cM_store 120 = .ok (.invokevirtual 56, 3) := by decide +kernel
theorem dM_store_123 : decode cM_store 123 = .ok (.return_, 1) := by decide +kernel
theorem dM_third_0 : decode cM_third 0 = .ok (.iload_n 1, 1) := by decide +kernel
theorem dM_third_1 : decode cM_third 1 = .ok (.ifCond .ne 17, 3) := by decide +kernel
theorem dM_third_4 : decode cM_third 4 = .ok (.aload_n 0, 1) := by decide +kernel
theorem dM_third_5 : decode cM_third 5 = .ok (.getfield 13, 3) := by decide +kernel
theorem dM_third_8 : decode cM_third 8 = .ok (.bipush 21, 2) := by decide +kernel
theorem dM_third_10 : decode cM_third 10 = .ok (.aload_n 0, 1) := by decide +kernel
theorem dM_third_11 : decode cM_third 11 = .ok (.invokevirtual 197, 3) := by decide +kernel
theorem dM_third_14 : decode cM_third 14 = .ok (.iastore, 1) := by decide +kernel
theorem dM_third_15 : decode cM_third 15 = .ok (.goto 161, 3) := by decide +kernel
theorem dM_third_18 : decode cM_third 18 = .ok (.iload_n 1, 1) := by decide +kernel
theorem dM_third_19 : decode cM_third 19 = .ok (.iconst 2, 1) := by decide +kernel
theorem dM_third_20 : decode cM_third 20 = .ok (.if_icmp .eq 8, 3) := by decide +kernel
theorem dM_third_23 : decode cM_third 23 = .ok (.iload_n 1, 1) := by decide +kernel
theorem dM_third_24 : decode cM_third 24 = .ok (.iconst 3, 1) := by decide +kernel
theorem dM_third_25 : decode cM_third 25 = .ok (.if_icmp .ne 52, 3) := by decide +kernel
theorem dM_third_28 : decode cM_third 28 = .ok (.sipush 256, 3) := by decide +kernel
theorem dM_third_31 : decode cM_third 31 = .ok (.aload_n 0, 1) := by decide +kernel
theorem dM_third_32 : decode cM_third 32 = .ok (.getfield 13, 3) := by decide +kernel
theorem dM_third_35 : decode cM_third 35 = .ok (.iconst 0, 1) := by decide +kernel
theorem dM_third_36 : decode cM_third 36 = .ok (.iaload, 1) := by decide +kernel
theorem dM_third_37 : decode cM_third 37 = .ok (.imul, 1) := by decide +kernel
theorem dM_third_38 : decode cM_third 38 = .ok (.aload_n 0, 1) := by decide +kernel
theorem dM_third_39 : decode cM_third 39 = .ok (.invokevirtual 52, 3) := by decide +kernel
theorem dM_third_42 : decode cM_third 42 = .ok (.iadd, 1) := by decide +kernel
theorem dM_third_43 : decode cM_third 43 = .ok (.istore_n 2, 1) := by decide +kernel
theorem dM_third_44 : decode cM_third 44 = .ok (.iload_n 1, 1) := by decide +kernel
theorem dM_third_45 : decode cM_third 45 = .ok (.iconst 2, 1) := by decide +kernel
theorem dM_third_46 : decode cM_third 46 = .ok (.if_icmp .ne 17, 3) := by decide +kernel
theorem dM_third_49 : decode cM_third 49 = .ok (.aload_n 0, 1) := by decide +kernel
theorem dM_third_50 : decode cM_third 50 = .ok (.iload_n 2, 1) := by decide +kernel
theorem dM_third_51 : decode cM_third 51 = .ok (.aload_n 0, 1) := by decide +kernel
theorem dM_third_52 : decode cM_third 52 = .ok (.getfield 13, 3) := by decide +kernel
theorem dM_third_55 : decode cM_third 55 = .ok (.iconst 0, 1) := by decide +kernel
theorem dM_third_56 : decode cM_third 56 = .ok (.iaload, 1) := by decide +kernel
theorem dM_third_57 : decode cM_third 57 = .ok (.invokevirtual 224, 3) := by decide +kernel
theorem dM_third_60 : decode cM_third 60 = .ok (.goto 14, 3) := by decide +kernel
theorem dM_third_63 : decode cM_third 63 = .ok (.aload_n 0, 1) := by decide +kernel
theorem dM_third_64 : decode cM_third 64 = .ok (.getfield 13, 3) := by decide +kernel
theorem dM_third_67 : decode cM_third 67 = .ok (.iconst 0, 1) := by decide +kernel
theorem dM_third_68 : decode cM_third 68 = .ok (.aload_n 0, 1) := by decide +kernel
theorem dM_third_69 : decode cM_third 69 = .ok (.iload_n 2, 1) := by decide +kernel
theorem dM_third_70 : decode cM_third 70 = .ok (.invokevirtual 227, 3) := by decide +kernel
theorem dM_third_73 : decode cM_third 73 = .ok (.iastore, 1) := by decide +kernel
theorem dM_third_74 : decode cM_third 74 = .ok (.goto 102, 3) := by decide +kernel
theorem dM_third_77 : decode cM_third 77 = .ok (.iload_n 1, 1) := by decide +kernel
theorem dM_third_78 : decode cM_third 78 = .ok (.iconst 4, 1) := by decide +kernel
theorem dM_third_79 : decode cM_third 79 = .ok (.if_icmp .ne 38, 3) := by decide +kernel
theorem dM_third_82 : decode cM_third 82 = .ok (.aload_n 0, 1) := by decide +kernel
theorem dM_third_83 : decode cM_third 83 = .ok (.aload_n 0, 1) := by decide +kernel
theorem dM_third_84 : decode cM_third 84 = .ok (.getfield 13, 3) := by decide +kernel
theorem dM_third_87 : decode cM_third 87 = .ok (.bipush 20, 2) := by decide +kernel
theorem dM_third_89 : decode cM_third 89 = .ok (.iaload, 1) := by decide +kernel
theorem dM_third_90 : decode cM_third 90 = .ok (.invokevirtual 164, 3) := by decide +kernel
theorem dM_third_93 : decode cM_third 93 = .ok (.istore_n 2, 1) := by decide +kernel
theorem dM_third_94 : decode cM_third 94 = .ok (.aload_n 0, 1) := by decide +kernel
theorem dM_third_95 : decode cM_third 95 = .ok (.aload_n 0, 1) := by decide +kernel
theorem dM_third_96 : decode cM_third 96 = .ok (.getfield 13, 3) := by decide +kernel
theorem dM_third_99 : decode cM_third 99 = .ok (.bipush 20, 2) := by decide +kernel
theorem dM_third_101 : decode cM_third 101 = .ok (.iaload, 1) := by decide +kernel
theorem dM_third_102 : decode cM_third 102 = .ok (.aload_n 0, 1) := by decide +kernel
theorem dM_third_103 : decode cM_third 103 = .ok (.invokevirtual 68, 3) := by decide +kernel
theorem dM_third_106 : decode cM_third 106 = .ok (.invokevirtual 221, 3) := by decide +kernel
theorem dM_third_109 : decode cM_third 109 = .ok (.aload_n 0, 1) := by decide +kernel
theorem dM_third_110 : decode cM_third 110 = .ok (.iload_n 2, 1) := by decide +kernel
theorem dM_third_111 : decode cM_third 111 = .ok (.invokevirtual 71, 3) := by decide +kernel
theorem dM_third_114 : decode cM_third 114 = .ok (.goto 62, 3) := by decide +kernel
theorem dM_third_117 : decode cM_third 117 = .ok (.iload_n 1, 1) := by decide +kernel
theorem dM_third_118 : decode cM_third 118 = .ok (.iconst 5, 1) := by decide +kernel
theorem dM_third_119 : decode cM_third 119 = .ok (.if_icmp .ne 20, 3) := by decide +kernel
theorem dM_third_122 : decode cM_third 122 = .ok (.aload_n 0, 1) := by decide +kernel
theorem dM_third_123 : decode cM_third 123 = .ok (.iconst 4, 1) := by decide +kernel
theorem dM_third_124 : decode cM_third 124 = .ok (.bipush 6, 2) := by decide +kernel
theorem dM_third_126 : decode cM_third 126 = .ok (.invokevirtual 214, 3) := by decide +kernel
theorem dM_third_129 : decode cM_third 129 = .ok (.aload_n 0, 1) := by decide +kernel
theorem dM_third_130 : decode cM_third 130 = .ok (.iconst 5, 1) := by decide +kernel
theorem dM_third_131 : decode cM_third 131 = .ok (.bipush 7, 2) := by decide +kernel
theorem dM_third_133 : decode cM_third 133 = .ok (.invokevirtual 214, 3) := by decide +kernel
theorem dM_third_136 : decode cM_third 136 = .ok (.goto 40, 3) := by decide +kernel
theorem dM_third_139 : decode cM_third 139 = .ok (.aload_n 0, 1) := by decide +kernel
theorem dM_third_140 : decode cM_third 140 = .ok (.getfield 13, 3) := by decide +kernel
theorem dM_third_143 : decode cM_third 143 = .ok (.bipush 22, 2) := by decide +kernel
theorem dM_third_145 : decode cM_third 145 = .ok (.iload_n 1, 1) := by decide +kernel
theorem dM_third_146 : decode cM_third 146 = .ok (.bipush 6, 2) := by decide +kernel
theorem dM_third_148 : decode cM_third 148 = .ok (.isub, 1) := by decide +kernel
theorem dM_third_149 : decode cM_third 149 = .ok (.iastore, 1) := by decide +kernel
theorem dM_third_150 : decode cM_third 150 = .ok (.aload_n 0, 1) := by decide +kernel
theorem dM_third_151 : decode cM_third 151 = .ok (.getfield 13, 3) := by decide +kernel
theorem dM_third_154 : decode cM_third 154 = .ok (.bipush 23, 2) := by decide +kernel
theorem dM_third_156 : decode cM_third 156 = .ok (.iload_n 1, 1) := by decide +kernel
theorem dM_third_157 : decode cM_third 157 = .ok (.bipush 6, 2) := by decide +kernel
theorem dM_third_159 : decode cM_third 159 = .ok (.isub, 1) := by decide +kernel
theorem dM_third_160 : decode cM_third 160 = .ok (.iastore, 1) := by decide +kernel
theorem dM_third_161 : decode cM_third 161 = .ok (.aload_n 0, 1) := by decide +kernel
theorem dM_third_162 : decode cM_third 162 = .ok (.iload_n 1, 1) := by decide +kernel
theorem dM_third_163 : decode cM_third 163 = .ok (.bipush 7, 2) := by decide +kernel
theorem dM_third_165 : decode cM_third 165 = .ok (.if_icmp .ne 7, 3) := by decide +kernel
theorem dM_third_168 : decode cM_third 168 = .ok (.iconst 1, 1) := by decide +kernel
theorem dM_third_169 : decode cM_third 169 = .ok (.goto 4, 3) := by decide +kernel
theorem dM_third_172 : decode cM_third 172 = .ok (.iconst 0, 1) := by decide +kernel
theorem dM_third_173 : decode cM_third 173 = .ok (.putfield 143, 3) := by decide +kernel
theorem dM_third_176 : decode cM_third 176 = .ok (.return_, 1) := by decide +kernel
theorem dM_last_0 : decode cM_last 0 = .ok (.iload_n 1, 1) := by decide +kernel
theorem dM_last_1 : decode cM_last 1 = .ok (.iconst 1, 1) := by decide +kernel
theorem dM_last_2 : decode cM_last 2 = .ok (.ishr, 1) := by decide +kernel
theorem dM_last_3 : decode cM_last 3 = .ok (.istore_n 3, 1) := by decide +kernel
theorem dM_last_4 : decode cM_last 4 = .ok (.iload_n 1, 1) := by decide +kernel
theorem dM_last_5 : decode cM_last 5 = .ok (.iconst 2, 1) := by decide +kernel
theorem dM_last_6 : decode cM_last 6 = .ok (.irem, 1) := by decide +kernel
theorem dM_last_7 : decode cM_last 7 = .ok (.iconst 1, 1) := by decide +kernel
theorem dM_last_8 : decode cM_last 8 = .ok (.if_icmp .ne 7, 3) := by decide +kernel
theorem dM_last_11 : decode cM_last 11 = .ok (.iconst 1, 1) := by decide +kernel
theorem dM_last_12 : decode cM_last 12 = .ok (.goto 4, 3) := by decide +kernel
theorem dM_last_15 : decode cM_last 15 = .ok (.iconst 0, 1) := by decide +kernel
theorem dM_last_16 : decode cM_last 16 = .ok (.istore 4, 2) := by decide +kernel
theorem dM_last_18 : decode cM_last 18 = .ok (.iload_n 2, 1) := by decide +kernel
theorem dM_last_19 : decode cM_last 19 = .ok (.ifCond .ne 25, 3) := by decide +kernel
theorem dM_last_22 : decode cM_last 22 = .ok (.aload_n 0, 1) := by decide +kernel
theorem dM_last_23 : decode cM_last 23 = .ok (.iload_n 1, 1) := by decide +kernel
theorem dM_last_24 : decode cM_last 24 = .ok (.invokevirtual 217, 3) := by decide +kernel
theorem dM_last_27 : decode cM_last 27 = .ok (.ifCond .eq 231, 3) := by decide +kernel
theorem dM_last_30 : decode cM_last 30 = .ok (.aload_n 0, 1) := by decide +kernel
theorem dM_last_31 : decode cM_last 31 = .ok (.getfield 13, 3) := by decide +kernel
theorem dM_last_34 : decode cM_last 34 = .ok (.bipush 21, 2) := by decide +kernel
theorem dM_last_36 : decode cM_last 36 = .ok (.aload_n 0, 1) := by decide +kernel
theorem dM_last_37 : decode cM_last 37 = .ok (.invokevirtual 230, 3) := by decide +kernel
theorem dM_last_40 : decode cM_last 40 = .ok (.iastore, 1) := by decide +kernel
theorem dM_last_41 : decode cM_last 41 = .ok (.goto 217, 3) := by decide +kernel
theorem dM_last_44 : decode cM_last 44 = .ok (.iload_n 2, 1) := by decide +kernel
theorem dM_last_45 : decode cM_last 45 = .ok (.iconst 2, 1) := by decide +kernel
theorem dM_last_46 : decode cM_last 46 = .ok (.if_icmp .eq 18, 3) := by decide +kernel
theorem dM_last_49 : decode cM_last 49 = .ok (.iload_n 2, 1) := by decide +kernel
theorem dM_last_50 : decode cM_last 50 = .ok (.iconst 4, 1) := by decide +kernel
theorem dM_last_51 : decode cM_last 51 = .ok (.if_icmp .eq 13, 3) := by decide +kernel
theorem dM_last_54 : decode cM_last 54 = .ok (.iload_n 2, 1) := by decide +kernel
theorem dM_last_55 : decode cM_last 55 = .ok (.iconst 5, 1) := by decide +kernel
theorem dM_last_56 : decode cM_last 56 = .ok (.if_icmp .ne 82, 3) := by decide +kernel
theorem dM_last_59 : decode cM_last 59 = .ok (.iload 4, 2) := by decide +kernel
theorem dM_last_61 : decode cM_last 61 = .ok (.ifCond .eq 77, 3) := by decide +kernel
theorem dM_last_64 : decode cM_last 64 = .ok (.aload_n 0, 1) := by decide +kernel
theorem dM_last_65 : decode cM_last 65 = .ok (.invokevirtual 197, 3) := by decide +kernel
theorem dM_last_68 : decode cM_last 68 = .ok (.istore 5, 2) := by decide +kernel
theorem dM_last_70 : decode cM_last 70 = .ok (.iload_n 2, 1) := by decide +kernel
theorem dM_last_71 : decode cM_last 71 = .ok (.iconst 5, 1) := by decide +kernel
theorem dM_last_72 : decode cM_last 72 = .ok (.if_icmp .eq 11, 3) := by decide +kernel
theorem dM_last_75 : decode cM_last 75 = .ok (.aload_n 0, 1) := by decide +kernel
theorem dM_last_76 : decode cM_last 76 = .ok (.iload_n 1, 1) := by decide +kernel
theorem dM_last_77 : decode cM_last 77 = .ok (.invokevirtual 217, 3) := by decide +kernel
theorem dM_last_80 : decode cM_last 80 = .ok (.ifCond .eq 7, 3) := by decide +kernel
theorem dM_last_83 : decode cM_last 83 = .ok (.iconst 1, 1) := by decide +kernel
theorem dM_last_84 : decode cM_last 84 = .ok (.goto 4, 3) := by decide +kernel
theorem dM_last_87 : decode cM_last 87 = .ok (.iconst 0, 1) := by decide +kernel
theorem dM_last_88 : decode cM_last 88 = .ok (.istore 6, 2) := by decide +kernel
theorem dM_last_90 : decode cM_last 90 = .ok (.iload 6, 2) := by decide +kernel
theorem dM_last_92 : decode cM_last 92 = .ok (.ifCond .eq 19, 3) := by decide +kernel
theorem dM_last_95 : decode cM_last 95 = .ok (.iload_n 2, 1) := by decide +kernel
theorem dM_last_96 : decode cM_last 96 = .ok (.iconst 2, 1) := by decide +kernel
theorem dM_last_97 : decode cM_last 97 = .ok (.if_icmp .eq 14, 3) := by decide +kernel
theorem dM_last_100 : decode cM_last 100 = .ok (.aload_n 0, 1) := by decide +kernel
theorem dM_last_101 : decode cM_last 101 = .ok (.aload_n 0, 1) := by decide +kernel
theorem dM_last_102 : decode cM_last 102 = .ok (.getfield 13, 3) := by decide +kernel
theorem dM_last_105 : decode cM_last 105 = .ok (.bipush 21, 2) := by decide +kernel
theorem dM_last_107 : decode cM_last 107 = .ok (.iaload, 1) := by decide +kernel
theorem dM_last_108 : decode cM_last 108 = .ok (.invokevirtual 161, 3) := by decide +kernel
theorem dM_last_111 : decode cM_last 111 = .ok (.aload_n 0, 1) := by decide +kernel
theorem dM_last_112 : decode cM_last 112 = .ok (.getfield 13, 3) := by decide +kernel
theorem dM_last_115 : decode cM_last 115 = .ok (.bipush 21, 2) := by decide +kernel
theorem dM_last_117 : decode cM_last 117 = .ok (.iload 6, 2) := by decide +kernel
theorem dM_last_119 : decode cM_last 119 = .ok (.ifCond .eq 8, 3) := by decide +kernel
theorem dM_last_122 : decode cM_last 122 = .ok (.iload 5, 2) := by decide +kernel
theorem dM_last_124 : decode cM_last 124 = .ok (.goto 10, 3) := by decide +kernel
theorem dM_last_127 : decode cM_last 127 = .ok (.aload_n 0, 1) := by decide +kernel
theorem dM_last_128 : decode cM_last 128 = .ok (.getfield 13, 3) := by decide +kernel
theorem dM_last_131 : decode cM_last 131 = .ok (.bipush 21, 2) := by decide +kernel
theorem dM_last_133 : decode cM_last 133 = .ok (.iaload, 1) := by decide +kernel
theorem dM_last_134 : decode cM_last 134 = .ok (.iastore, 1) := by decide +kernel
theorem dM_last_135 : decode cM_last 135 = .ok (.goto 123, 3) := by decide +kernel
theorem dM_last_138 : decode cM_last 138 = .ok (.iload_n 2, 1) := by decide +kernel
theorem dM_last_139 : decode cM_last 139 = .ok (.bipush 6, 2) := by decide +kernel
theorem dM_last_141 : decode cM_last 141 = .ok (.if_icmp .ne 15, 3) := by decide +kernel
theorem dM_last_144 : decode cM_last 144 = .ok (.aload_n 0, 1) := by decide +kernel
theorem dM_last_145 : decode cM_last 145 = .ok (.iload_n 1, 1) := by decide +kernel
theorem dM_last_146 : decode cM_last 146 = .ok (.aload_n 0, 1) := by decide +kernel
theorem dM_last_147 : decode cM_last 147 = .ok (.invokevirtual 52, 3) := by decide +kernel
theorem dM_last_150 : decode cM_last 150 = .ok (.invokevirtual 179, 3) := by decide +kernel
theorem dM_last_153 : decode cM_last 153 = .ok (.goto 105, 3) := by decide +kernel
theorem dM_last_156 : decode cM_last 156 = .ok (.iload_n 2, 1) := by decide +kernel
theorem dM_last_157 : decode cM_last 157 = .ok (.bipush 7, 2) := by decide +kernel
theorem dM_last_159 : decode cM_last 159 = .ok (.if_icmp .ne 28, 3) := by decide +kernel
theorem dM_last_162 : decode cM_last 162 = .ok (.aload_n 0, 1) := by decide +kernel
theorem dM_last_163 : decode cM_last 163 = .ok (.aload_n 0, 1) := by decide +kernel
theorem dM_last_164 : decode cM_last 164 = .ok (.getfield 13, 3) := by decide +kernel
theorem dM_last_167 : decode cM_last 167 = .ok (.bipush 21, 2) := by decide +kernel
theorem dM_last_169 : decode cM_last 169 = .ok (.iaload, 1) := by decide +kernel
theorem dM_last_170 : decode cM_last 170 = .ok (.invokevirtual 161, 3) := by decide +kernel
theorem dM_last_173 : decode cM_last 173 = .ok (.aload_n 0, 1) := by decide +kernel
theorem dM_last_174 : decode cM_last 174 = .ok (.getfield 13, 3) := by decide +kernel
theorem dM_last_177 : decode cM_last 177 = .ok (.bipush 21, 2) := by decide +kernel
theorem dM_last_179 : decode cM_last 179 = .ok (.bipush 8, 2) := by decide +kernel
theorem dM_last_181 : decode cM_last 181 = .ok (.iload_n 1, 1) := by decide +kernel
theorem dM_last_182 : decode cM_last 182 = .ok (.imul, 1) := by decide +kernel
theorem dM_last_183 : decode cM_last 183 = .ok (.iastore, 1) := by decide +kernel
theorem dM_last_184 : decode cM_last 184 = .ok (.goto 74, 3) := by decide +kernel
theorem dM_last_187 : decode cM_last 187 = .ok (.iload_n 2, 1) := by decide +kernel
theorem dM_last_188 : decode cM_last 188 = .ok (.iconst 5, 1) := by decide +kernel
theorem dM_last_189 : decode cM_last 189 = .ok (.if_icmp .ne 28, 3) := by decide +kernel
theorem dM_last_192 : decode cM_last 192 = .ok (.aload_n 0, 1) := by decide +kernel
theorem dM_last_193 : decode cM_last 193 = .ok (.iload_n 3, 1) := by decide +kernel
theorem dM_last_194 : decode cM_last 194 = .ok (.iconst 3, 1) := by decide +kernel
theorem dM_last_195 : decode cM_last 195 = .ok (.if_icmp .ne 11, 3) := by decide +kernel
theorem dM_last_198 : decode cM_last 198 = .ok (.aload_n 0, 1) := by decide +kernel
theorem dM_last_199 : decode cM_last 199 = .ok (.iconst 0, 1) := by decide +kernel
theorem dM_last_200 : decode cM_last 200 = .ok (.invokevirtual 62, 3) := by decide +kernel
theorem dM_last_203 : decode cM_last 203 = .ok (.goto 8, 3) := by decide +kernel
theorem dM_last_206 : decode cM_last 206 = .ok (.aload_n 0, 1) := by decide +kernel
theorem dM_last_207 : decode cM_last 207 = .ok (.iload_n 3, 1) := by decide +kernel
theorem dM_last_208 : decode cM_last 208 = .ok (.invokevirtual 191, 3) := by decide +kernel
theorem dM_last_211 : decode cM_last 211 = .ok (.invokevirtual 161, 3) := by decide +kernel
theorem dM_last_214 : decode cM_last 214 = .ok (.goto 44, 3) := by decide +kernel
theorem dM_last_217 : decode cM_last 217 = .ok (.iload 4, 2) := by decide +kernel
theorem dM_last_219 : decode cM_last 219 = .ok (.ifCond .ne 34, 3) := by decide +kernel
theorem dM_last_222 : decode cM_last 222 = .ok (.aload_n 0, 1) := by decide +kernel
theorem dM_last_223 : decode cM_last 223 = .ok (.invokevirtual 230, 3) := by decide +kernel
theorem dM_last_226 : decode cM_last 226 = .ok (.istore 5, 2) := by decide +kernel
theorem dM_last_228 : decode cM_last 228 = .ok (.iload_n 3, 1) := by decide +kernel
theorem dM_last_229 : decode cM_last 229 = .ok (.iconst 3, 1) := by decide +kernel
theorem dM_last_230 : decode cM_last 230 = .ok (.if_icmp .ne 13, 3) := by decide +kernel
theorem dM_last_233 : decode cM_last 233 = .ok (.aload_n 0, 1) := by decide +kernel
theorem dM_last_234 : decode cM_last 234 = .ok (.iconst 0, 1) := by decide +kernel
theorem dM_last_235 : decode cM_last 235 = .ok (.iload 5, 2) := by decide +kernel
theorem dM_last_237 : decode cM_last 237 = .ok (.invokevirtual 65, 3) := by decide +kernel
theorem dM_last_240 : decode cM_last 240 = .ok (.goto 10, 3) := by decide +kernel
theorem dM_last_243 : decode cM_last 243 = .ok (.aload_n 0, 1) := by decide +kernel
theorem dM_last_244 : decode cM_last 244 = .ok (.iload_n 3, 1) := by decide +kernel
theorem dM_last_245 : decode cM_last 245 = .ok (.iload 5, 2) := by decide +kernel
theorem dM_last_247 : decode cM_last 247 = .ok (.invokevirtual 200, 3) := by decide +kernel
theorem dM_last_250 : decode cM_last 250 = .ok (.goto 8, 3) := by decide +kernel
theorem dM_last_253 : decode cM_last 253 = .ok (.aload_n 0, 1) := by decide +kernel
theorem dM_last_254 : decode cM_last 254 = .ok (.iload_n 3, 1) := by decide +kernel
theorem dM_last_255 : decode cM_last 255 = .ok (.invokevirtual 233, 3) := by decide +kernel
theorem dM_last_258 : decode cM_last 258 = .ok (.return_, 1) := by decide +kernel
theorem dM_odd_0 : decode cM_odd 0 = .ok (.iload_n 1, 1) := by decide +kernel
theorem dM_odd_1 : decode cM_odd 1 = .ok (.ifCond .ne 17, 3) := by decide +kernel
theorem dM_odd_4 : decode cM_odd 4 = .ok (.aload_n 0, 1) := by decide +kernel
theorem dM_odd_5 : decode cM_odd 5 = .ok (.getfield 13, 3) := by decide +kernel
theorem dM_odd_8 : decode cM_odd 8 = .ok (.bipush 21, 2) := by decide +kernel
theorem dM_odd_10 : decode cM_odd 10 = .ok (.aload_n 0, 1) := by decide +kernel
theorem dM_odd_11 : decode cM_odd 11 = .ok (.invokevirtual 230, 3) := by decide +kernel
theorem dM_odd_14 : decode cM_odd 14 = .ok (.iastore, 1) := by decide +kernel
theorem dM_odd_15 : decode cM_odd 15 = .ok (.goto 64, 3) := by decide +kernel
theorem dM_odd_18 : decode cM_odd 18 = .ok (.iload_n 1, 1) := by decide +kernel
theorem dM_odd_19 : decode cM_odd 19 = .ok (.iconst 1, 1) := by decide +kernel
theorem dM_odd_20 : decode cM_odd 20 = .ok (.if_icmp .ne 29, 3) := by decide +kernel
theorem dM_odd_23 : decode cM_odd 23 = .ok (.iconst 2, 1) := by decide +kernel
theorem dM_odd_24 : decode cM_odd 24 = .ok (.istore_n 2, 1) := by decide +kernel
theorem dM_odd_25 : decode cM_odd 25 = .ok (.iload_n 2, 1) := by decide +kernel
theorem dM_odd_26 : decode cM_odd 26 = .ok (.bipush 8, 2) := by decide +kernel
theorem dM_odd_28 : decode cM_odd 28 = .ok (.if_icmp .ge 18, 3) := by decide +kernel
theorem dM_odd_31 : decode cM_odd 31 = .ok (.aload_n 0, 1) := by decide +kernel
theorem dM_odd_32 : decode cM_odd 32 = .ok (.iload_n 2, 1) := by decide +kernel
theorem dM_odd_33 : decode cM_odd 33 = .ok (.iload_n 2, 1) := by decide +kernel
theorem dM_odd_34 : decode cM_odd 34 = .ok (.bipush 8, 2) := by decide +kernel
theorem dM_odd_36 : decode cM_odd 36 = .ok (.iadd, 1) := by decide +kernel
theorem dM_odd_37 : decode cM_odd 37 = .ok (.invokevirtual 214, 3) := by decide +kernel
theorem dM_odd_40 : decode cM_odd 40 = .ok (.iinc 2 1, 3) := by decide +kernel
theorem dM_odd_43 : decode cM_odd 43 = .ok (.goto (-18), 3) := by decide +kernel
theorem dM_odd_46 : decode cM_odd 46 = .ok (.goto 33, 3) := by decide +kernel
theorem dM_odd_49 : decode cM_odd 49 = .ok (.iload_n 1, 1) := by decide +kernel
theorem dM_odd_50 : decode cM_odd 50 = .ok (.iconst 2, 1) := by decide +kernel
theorem dM_odd_51 : decode cM_odd 51 = .ok (.if_icmp .ne 17, 3) := by decide +kernel
theorem dM_odd_54 : decode cM_odd 54 = .ok (.aload_n 0, 1) := by decide +kernel
theorem dM_odd_55 : decode cM_odd 55 = .ok (.getfield 13, 3) := by decide +kernel
theorem dM_odd_58 : decode cM_odd 58 = .ok (.bipush 21, 2) := by decide +kernel
theorem dM_odd_60 : decode cM_odd 60 = .ok (.aload_n 0, 1) := by decide +kernel
theorem dM_odd_61 : decode cM_odd 61 = .ok (.invokevirtual 68, 3) := by decide +kernel
theorem dM_odd_64 : decode cM_odd 64 = .ok (.iastore, 1) := by decide +kernel
theorem dM_odd_65 : decode cM_odd 65 = .ok (.goto 14, 3) := by decide +kernel
theorem dM_odd_68 : decode cM_odd 68 = .ok (.aload_n 0, 1) := by decide +kernel
theorem dM_odd_69 : decode cM_odd 69 = .ok (.getfield 13, 3) := by decide +kernel
theorem dM_odd_72 : decode cM_odd 72 = .ok (.bipush 20, 2) := by decide +kernel
theorem dM_odd_74 : decode cM_odd 74 = .ok (.aload_n 0, 1) := by decide +kernel
theorem dM_odd_75 : decode cM_odd 75 = .ok (.invokevirtual 68, 3) := by decide +kernel
theorem dM_odd_78 : decode cM_odd 78 = .ok (.iastore, 1) := by decide +kernel
theorem dM_odd_79 : decode cM_odd 79 = .ok (.return_, 1) := by decide +kernel
theorem dM_rotation_0 : decode cM_rotation 0 = .ok (.aload_n 0, 1) := by decide +kernel
theorem dM_rotation_1 : decode cM_rotation 1 = .ok (.getfield 59, 3) := by decide +kernel
theorem dM_rotation_4 : decode cM_rotation 4 = .ok (.ifCond .eq 7, 3) := by decide +kernel
theorem dM_rotation_7 : decode cM_rotation 7 = .ok (.aload_n 0, 1) := by decide +kernel
theorem dM_rotation_8 : decode cM_rotation 8 = .ok (.invokevirtual 170, 3) := by decide +kernel
theorem dM_rotation_11 : decode cM_rotation 11 = .ok (.aload_n 0, 1) := by decide +kernel
theorem dM_rotation_12 : decode cM_rotation 12 = .ok (.getfield 59, 3) := by decide +kernel
theorem dM_rotation_15 : decode cM_rotation 15 = .ok (.ifCond .eq 10, 3) := by decide +kernel
theorem dM_rotation_18 : decode cM_rotation 18 = .ok (.aload_n 0, 1) := by decide +kernel
theorem dM_rotation_19 : decode cM_rotation 19 = .ok (.invokevirtual 52, 3) := by decide +kernel
theorem dM_rotation_22 : decode cM_rotation 22 = .ok (.goto 7, 3) := by decide +kernel
theorem dM_rotation_25 : decode cM_rotation 25 = .ok (.aload_n 0, 1) := by decide +kernel
theorem dM_rotation_26 : decode cM_rotation 26 = .ok (.invokevirtual 149, 3) := by decide +kernel
theorem dM_rotation_29 : decode cM_rotation 29 = .ok (.istore_n 1, 1) := by decide +kernel
theorem dM_rotation_30 : decode cM_rotation 30 = .ok (.iload_n 1, 1) := by decide +kernel
theorem dM_rotation_31 : decode cM_rotation 31 = .ok (.bipush 6, 2) := by decide +kernel
theorem dM_rotation_33 : decode cM_rotation 33 = .ok (.ishr, 1) := by decide +kernel
theorem dM_rotation_34 : decode cM_rotation 34 = .ok (.istore_n 2, 1) := by decide +kernel
theorem dM_rotation_35 : decode cM_rotation 35 = .ok (.iload_n 1, 1) := by decide +kernel
theorem dM_rotation_36 : decode cM_rotation 36 = .ok (.iconst 3, 1) := by decide +kernel
theorem dM_rotation_37 : decode cM_rotation 37 = .ok (.ishr, 1) := by decide +kernel
theorem dM_rotation_38 : decode cM_rotation 38 = .ok (.bipush 7, 2) := by decide +kernel
theorem dM_rotation_40 : decode cM_rotation 40 = .ok (.iand, 1) := by decide +kernel
theorem dM_rotation_41 : decode cM_rotation 41 = .ok (.istore_n 3, 1) := by decide +kernel
theorem dM_rotation_42 : decode cM_rotation 42 = .ok (.iload_n 1, 1) := by decide +kernel
theorem dM_rotation_43 : decode cM_rotation 43 = .ok (.bipush 7, 2) := by decide +kernel
theorem dM_rotation_45 : decode cM_rotation 45 = .ok (.iand, 1) := by decide +kernel
theorem dM_rotation_46 : decode cM_rotation 46 = .ok (.istore 4, 2) := by decide +kernel
theorem dM_rotation_48 : decode cM_rotation 48 = .ok (.aload_n 0, 1) := by decide +kernel
theorem dM_rotation_49 : decode cM_rotation 49 = .ok (.getfield 59, 3) := by decide +kernel
theorem dM_rotation_52 : decode cM_rotation 52 = .ok (.ifCond .ne 13, 3) := by decide +kernel
theorem dM_rotation_55 : decode cM_rotation 55 = .ok (.aload_n 0, 1) := by decide +kernel
theorem dM_rotation_56 : decode cM_rotation 56 = .ok (.aload_n 0, 1) := by decide +kernel
theorem dM_rotation_57 : decode cM_rotation 57 = .ok (.bipush 6, 2) := by decide +kernel
theorem dM_rotation_59 : decode cM_rotation 59 = .ok (.invokevirtual 62, 3) := by decide +kernel
theorem dM_rotation_62 : decode cM_rotation 62 = .ok (.putfield 77, 3) := by decide +kernel
theorem dM_rotation_65 : decode cM_rotation 65 = .ok (.aload_n 0, 1) := by decide +kernel
theorem dM_rotation_66 : decode cM_rotation 66 = .ok (.aload_n 0, 1) := by decide +kernel
theorem dM_rotation_67 : decode cM_rotation 67 = .ok (.getfield 59, 3) := by decide +kernel
theorem dM_rotation_70 : decode cM_rotation 70 = .ok (.ifCond .eq 8, 3) := by decide +kernel
theorem dM_rotation_73 : decode cM_rotation 73 = .ok (.bipush 6, 2) := by decide +kernel
theorem dM_rotation_75 : decode cM_rotation 75 = .ok (.goto 5, 3) := by decide +kernel
theorem dM_rotation_78 : decode cM_rotation 78 = .ok (.iload 4, 2) := by decide +kernel
theorem dM_rotation_80 : decode cM_rotation 80 = .ok (.invokevirtual 173, 3) := by decide +kernel
theorem dM_rotation_83 : decode cM_rotation 83 = .ok (.istore 5, 2) := by decide +kernel
theorem dM_rotation_85 : decode cM_rotation 85 = .ok (.iload_n 2, 1) := by decide +kernel
theorem dM_rotation_86 : decode cM_rotation 86 = .ok (.iconst 1, 1) := by decide +kernel
theorem dM_rotation_87 : decode cM_rotation 87 = .ok (.if_icmp .ne 11, 3) := by decide +kernel
theorem dM_rotation_90 : decode cM_rotation 90 = .ok (.aload_n 0, 1) := by decide +kernel
theorem dM_rotation_91 : decode cM_rotation 91 = .ok (.iload_n 3, 1) := by decide +kernel
theorem dM_rotation_92 : decode cM_rotation 92 = .ok (.iload 5, 2) := by decide +kernel
theorem dM_rotation_94 : decode cM_rotation 94 = .ok (.invokevirtual 236, 3) := by decide +kernel
theorem dM_rotation_97 : decode cM_rotation 97 = .ok (.return_, 1) := by decide +kernel
theorem dM_rotation_98 : decode cM_rotation 98 = .ok (.iload_n 2, 1) := by decide +kernel
theorem dM_rotation_99 : decode cM_rotation 99 = .ok (.ifCond .ne 13, 3) := by decide +kernel
theorem dM_rotation_102 : decode cM_rotation 102 = .ok (.aload_n 0, 1) := by decide +kernel
theorem dM_rotation_103 : decode cM_rotation 103 = .ok (.iload_n 3, 1) := by decide +kernel
theorem dM_rotation_104 : decode cM_rotation 104 = .ok (.iload 5, 2) := by decide +kernel
theorem dM_rotation_106 : decode cM_rotation 106 = .ok (.invokevirtual 239, 3) := by decide +kernel
theorem dM_rotation_109 : decode cM_rotation 109 = .ok (.goto 25, 3) := by decide +kernel
theorem dM_rotation_112 : decode cM_rotation 112 = .ok (.iload_n 2, 1) := by decide +kernel
theorem dM_rotation_113 : decode cM_rotation 113 = .ok (.iconst 2, 1) := by decide +kernel
theorem dM_rotation_114 : decode cM_rotation 114 = .ok (.if_icmp .ne 14, 3) := by decide +kernel
theorem dM_rotation_117 : decode cM_rotation 117 = .ok (.iload 5, 2) := by decide +kernel
theorem dM_rotation_119 : decode cM_rotation 119 = .ok (.iconst 1, 1) := by decide +kernel
theorem dM_rotation_120 : decode cM_rotation 120 = .ok (.iload_n 3, 1) := by decide +kernel
theorem dM_rotation_121 : decode cM_rotation 121 = .ok (.ishl, 1) := by decide +kernel
theorem dM_rotation_122 : decode cM_rotation 122 = .ok (.iconst (-1), 1) := by decide +kernel
theorem dM_rotation_123 : decode cM_rotation 123 = .ok (.ixor, 1) := by decide +kernel
theorem dM_rotation_124 : decode cM_rotation 124 = .ok (.iand, 1) := by decide +kernel
theorem dM_rotation_125 : decode cM_rotation 125 = .ok (.goto 9, 3) := by decide +kernel
theorem dM_rotation_128 : decode cM_rotation 128 = .ok (.iload 5, 2) := by decide +kernel
theorem dM_rotation_130 : decode cM_rotation 130 = .ok (.iconst 1, 1) := by decide +kernel
theorem dM_rotation_131 : decode cM_rotation 131 = .ok (.iload_n 3, 1) := by decide +kernel
theorem dM_rotation_132 : decode cM_rotation 132 = .ok (.ishl, 1) := by decide +kernel
theorem dM_rotation_133 : decode cM_rotation 133 = .ok (.ior, 1) := by decide +kernel
theorem dM_rotation_134 : decode cM_rotation 134 = .ok (.istore 6, 2) := by decide +kernel
theorem dM_rotation_136 : decode cM_rotation 136 = .ok (.aload_n 0, 1) := by decide +kernel
theorem dM_rotation_137 : decode cM_rotation 137 = .ok (.getfield 59, 3) := by decide +kernel
theorem dM_rotation_140 : decode cM_rotation 140 = .ok (.ifCond .eq 11, 3) := by decide +kernel
theorem dM_rotation_143 : decode cM_rotation 143 = .ok (.aload_n 0, 1) := by decide +kernel
theorem dM_rotation_144 : decode cM_rotation 144 = .ok (.bipush 6, 2) := by decide +kernel
theorem dM_rotation_146 : decode cM_rotation 146 = .ok (.iload 6, 2) := by decide +kernel
theorem dM_rotation_148 : decode cM_rotation 148 = .ok (.invokevirtual 176, 3) := by decide +kernel
theorem dM_rotation_151 : decode cM_rotation 151 = .ok (.aload_n 0, 1) := by decide +kernel
theorem dM_rotation_152 : decode cM_rotation 152 = .ok (.getfield 59, 3) := by decide +kernel
theorem dM_rotation_155 : decode cM_rotation 155 = .ok (.ifCond .eq 10, 3) := by decide +kernel
theorem dM_rotation_158 : decode cM_rotation 158 = .ok (.iload 4, 2) := by decide +kernel
theorem dM_rotation_160 : decode cM_rotation 160 = .ok (.bipush 6, 2) := by decide +kernel
theorem dM_rotation_162 : decode cM_rotation 162 = .ok (.if_icmp .eq 11, 3) := by decide +kernel
theorem dM_rotation_165 : decode cM_rotation 165 = .ok (.aload_n 0, 1) := by decide +kernel
theorem dM_rotation_166 : decode cM_rotation 166 = .ok (.iload 4, 2) := by decide +kernel
theorem dM_rotation_168 : decode cM_rotation 168 = .ok (.iload 6, 2) := by decide +kernel
theorem dM_rotation_170 : decode cM_rotation 170 = .ok (.invokevirtual 176, 3) := by decide +kernel
theorem dM_rotation_173 : decode cM_rotation 173 = .ok (.return_, 1) := by decide +kernel
theorem dM_more_0 : decode cM_more 0 = .ok (.iload_n 1, 1) := by decide +kernel
theorem dM_more_1 : decode cM_more 1 = .ok (.iconst 3, 1) := by decide +kernel
theorem dM_more_2 : decode cM_more 2 = .ok (.ishr, 1) := by decide +kernel
theorem dM_more_3 : decode cM_more 3 = .ok (.bipush 7, 2) := by decide +kernel
theorem dM_more_5 : decode cM_more 5 = .ok (.iand, 1) := by decide +kernel
theorem dM_more_6 : decode cM_more 6 = .ok (.istore_n 2, 1) := by decide +kernel
theorem dM_more_7 : decode cM_more 7 = .ok (.iload_n 1, 1) := by decide +kernel
theorem dM_more_8 : decode cM_more 8 = .ok (.bipush 7, 2) := by decide +kernel
theorem dM_more_10 : decode cM_more 10 = .ok (.iand, 1) := by decide +kernel
theorem dM_more_11 : decode cM_more 11 = .ok (.istore_n 3, 1) := by decide +kernel
theorem dM_more_12 : decode cM_more 12 = .ok (.iload_n 1, 1) := by decide +kernel
theorem dM_more_13 : decode cM_more 13 = .ok (.bipush 6, 2) := by decide +kernel
theorem dM_more_15 : decode cM_more 15 = .ok (.ishr, 1) := by decide +kernel
theorem dM_more_16 : decode cM_more 16 = .ok (.iconst 2, 1) := by decide +kernel
theorem dM_more_17 : decode cM_more 17 = .ok (.if_icmp .ne 28, 3) := by decide +kernel
theorem dM_more_20 : decode cM_more 20 = .ok (.iload_n 2, 1) := by decide +kernel
theorem dM_more_21 : decode cM_more 21 = .ok (.iconst 3, 1) := by decide +kernel
theorem dM_more_22 : decode cM_more 22 = .ok (.if_icmp .le 23, 3) := by decide +kernel
theorem dM_more_25 : decode cM_more 25 = .ok (.iload_n 3, 1) := by decide +kernel
theorem dM_more_26 : decode cM_more 26 = .ok (.iconst 2, 1) := by decide +kernel
theorem dM_more_27 : decode cM_more 27 = .ok (.if_icmp .ge 18, 3) := by decide +kernel
theorem dM_more_30 : decode cM_more 30 = .ok (.aload_n 0, 1) := by decide +kernel
theorem dM_more_31 : decode cM_more 31 = .ok (.iload_n 2, 1) := by decide +kernel
theorem dM_more_32 : decode cM_more 32 = .ok (.iload_n 3, 1) := by decide +kernel
theorem dM_more_33 : decode cM_more 33 = .ok (.iconst 1, 1) := by decide +kernel
theorem dM_more_34 : decode cM_more 34 = .ok (.if_icmp .ne 7, 3) := by decide +kernel
theorem dM_more_37 : decode cM_more 37 = .ok (.iconst 1, 1) := by decide +kernel
theorem dM_more_38 : decode cM_more 38 = .ok (.goto 4, 3) := by decide +kernel
theorem dM_more_41 : decode cM_more 41 = .ok (.iconst 0, 1) := by decide +kernel
theorem dM_more_42 : decode cM_more 42 = .ok (.invokevirtual 242, 3) := by decide +kernel
theorem dM_more_45 : decode cM_more 45 = .ok (.iload_n 1, 1) := by decide +kernel
theorem dM_more_46 : decode cM_more 46 = .ok (.bipush 6, 2) := by decide +kernel
theorem dM_more_48 : decode cM_more 48 = .ok (.ishr, 1) := by decide +kernel
theorem dM_more_49 : decode cM_more 49 = .ok (.iconst 1, 1) := by decide +kernel
theorem dM_more_50 : decode cM_more 50 = .ok (.if_icmp .eq 4, 3) := by decide +kernel
theorem dM_more_53 : decode cM_more 53 = .ok (.return_, 1) := by decide +kernel
theorem dM_more_54 : decode cM_more 54 = .ok (.iload_n 2, 1) := by decide +kernel
theorem dM_more_55 : decode cM_more 55 = .ok (.iconst 1, 1) := by decide +kernel
theorem dM_more_56 : decode cM_more 56 = .ok (.ishr, 1) := by decide +kernel
theorem dM_more_57 : decode cM_more 57 = .ok (.istore 4, 2) := by decide +kernel
theorem dM_more_59 : decode cM_more 59 = .ok (.iload_n 2, 1) := by decide +kernel
theorem dM_more_60 : decode cM_more 60 = .ok (.iconst 2, 1) := by decide +kernel
theorem dM_more_61 : decode cM_more 61 = .ok (.irem, 1) := by decide +kernel
theorem dM_more_62 : decode cM_more 62 = .ok (.iconst 1, 1) := by decide +kernel
theorem dM_more_63 : decode cM_more 63 = .ok (.if_icmp .ne 7, 3) := by decide +kernel
theorem dM_more_66 : decode cM_more 66 = .ok (.iconst 1, 1) := by decide +kernel
theorem dM_more_67 : decode cM_more 67 = .ok (.goto 4, 3) := by decide +kernel
theorem dM_more_70 : decode cM_more 70 = .ok (.iconst 0, 1) := by decide +kernel
theorem dM_more_71 : decode cM_more 71 = .ok (.istore 5, 2) := by decide +kernel
theorem dM_more_73 : decode cM_more 73 = .ok (.iload_n 3, 1) := by decide +kernel
theorem dM_more_74 : decode cM_more 74 = .ok (.ifCond .ne 56, 3) := by decide +kernel
theorem dM_more_77 : decode cM_more 77 = .ok (.aload_n 0, 1) := by decide +kernel
theorem dM_more_78 : decode cM_more 78 = .ok (.aload_n 0, 1) := by decide +kernel
theorem dM_more_79 : decode cM_more 79 = .ok (.iconst 2, 1) := by decide +kernel
theorem dM_more_80 : decode cM_more 80 = .ok (.invokevirtual 62, 3) := by decide +kernel
theorem dM_more_83 : decode cM_more 83 = .ok (.invokevirtual 227, 3) := by decide +kernel
theorem dM_more_86 : decode cM_more 86 = .ok (.istore 6, 2) := by decide +kernel
theorem dM_more_88 : decode cM_more 88 = .ok (.iload_n 2, 1) := by decide +kernel
theorem dM_more_89 : decode cM_more 89 = .ok (.bipush 6, 2) := by decide +kernel
theorem dM_more_91 : decode cM_more 91 = .ok (.if_icmp .eq 10, 3) := by decide +kernel
theorem dM_more_94 : decode cM_more 94 = .ok (.aload_n 0, 1) := by decide +kernel
theorem dM_more_95 : decode cM_more 95 = .ok (.iload_n 2, 1) := by decide +kernel
theorem dM_more_96 : decode cM_more 96 = .ok (.iload 6, 2) := by decide +kernel
theorem dM_more_98 : decode cM_more 98 = .ok (.invokevirtual 176, 3) := by decide +kernel
theorem dM_more_101 : decode cM_more 101 = .ok (.aload_n 0, 1) := by decide +kernel
theorem dM_more_102 : decode cM_more 102 = .ok (.getfield 13, 3) := by decide +kernel
theorem dM_more_105 : decode cM_more 105 = .ok (.iconst 1, 1) := by decide +kernel
theorem dM_more_106 : decode cM_more 106 = .ok (.aload_n 0, 1) := by decide +kernel
theorem dM_more_107 : decode cM_more 107 = .ok (.getfield 13, 3) := by decide +kernel
theorem dM_more_110 : decode cM_more 110 = .ok (.iconst 1, 1) := by decide +kernel
theorem dM_more_111 : decode cM_more 111 = .ok (.iaload, 1) := by decide +kernel
theorem dM_more_112 : decode cM_more 112 = .ok (.iconst 1, 1) := by decide +kernel
theorem dM_more_113 : decode cM_more 113 = .ok (.iand, 1) := by decide +kernel
theorem dM_more_114 : decode cM_more 114 = .ok (.iload 6, 2) := by decide +kernel
theorem dM_more_116 : decode cM_more 116 = .ok (.invokestatic 98, 3) := by decide +kernel
theorem dM_more_119 : decode cM_more 119 = .ok (.ior, 1) := by decide +kernel
theorem dM_more_120 : decode cM_more 120 = .ok (.iload 6, 2) := by decide +kernel
theorem dM_more_122 : decode cM_more 122 = .ok (.invokestatic 107, 3) := by decide +kernel
theorem dM_more_125 : decode cM_more 125 = .ok (.ior, 1) := by decide +kernel
theorem dM_more_126 : decode cM_more 126 = .ok (.iastore, 1) := by decide +kernel
theorem dM_more_127 : decode cM_more 127 = .ok (.goto 299, 3) := by decide +kernel
theorem dM_more_130 : decode cM_more 130 = .ok (.iload_n 3, 1) := by decide +kernel
theorem dM_more_131 : decode cM_more 131 = .ok (.iconst 1, 1) := by decide +kernel
theorem dM_more_132 : decode cM_more 132 = .ok (.if_icmp .ne 30, 3) := by decide +kernel
theorem dM_more_135 : decode cM_more 135 = .ok (.aload_n 0, 1) := by decide +kernel
theorem dM_more_136 : decode cM_more 136 = .ok (.aload_n 0, 1) := by decide +kernel
theorem dM_more_137 : decode cM_more 137 = .ok (.iconst 2, 1) := by decide +kernel
theorem dM_more_138 : decode cM_more 138 = .ok (.invokevirtual 62, 3) := by decide +kernel
theorem dM_more_141 : decode cM_more 141 = .ok (.iload_n 2, 1) := by decide +kernel
theorem dM_more_142 : decode cM_more 142 = .ok (.bipush 6, 2) := by decide +kernel
theorem dM_more_144 : decode cM_more 144 = .ok (.if_icmp .ne 7, 3) := by decide +kernel
theorem dM_more_147 : decode cM_more 147 = .ok (.iconst 0, 1) := by decide +kernel
theorem dM_more_148 : decode cM_more 148 = .ok (.goto 8, 3) := by decide +kernel
theorem dM_more_151 : decode cM_more 151 = .ok (.aload_n 0, 1) := by decide +kernel
theorem dM_more_152 : decode cM_more 152 = .ok (.iload_n 2, 1) := by decide +kernel
theorem dM_more_153 : decode cM_more 153 = .ok (.invokevirtual 173, 3) := by decide +kernel
theorem dM_more_156 : decode cM_more 156 = .ok (.invokevirtual 224, 3) := by decide +kernel
theorem dM_more_159 : decode cM_more 159 = .ok (.goto 267, 3) := by decide +kernel
theorem dM_more_162 : decode cM_more 162 = .ok (.iload_n 3, 1) := by decide +kernel
theorem dM_more_163 : decode cM_more 163 = .ok (.iconst 2, 1) := by decide +kernel
theorem dM_more_164 : decode cM_more 164 = .ok (.if_icmp .ne 116, 3) := by decide +kernel
theorem dM_more_167 : decode cM_more 167 = .ok (.aload_n 0, 1) := by decide +kernel
theorem dM_more_168 : decode cM_more 168 = .ok (.getfield 13, 3) := by decide +kernel
theorem dM_more_171 : decode cM_more 171 = .ok (.iconst 1, 1) := by decide +kernel
theorem dM_more_172 : decode cM_more 172 = .ok (.iaload, 1) := by decide +kernel
theorem dM_more_173 : decode cM_more 173 = .ok (.iconst 1, 1) := by decide +kernel
theorem dM_more_174 : decode cM_more 174 = .ok (.iand, 1) := by decide +kernel
theorem dM_more_175 : decode cM_more 175 = .ok (.istore 6, 2) := by decide +kernel
theorem dM_more_177 : decode cM_more 177 = .ok (.iload 5, 2) := by decide +kernel
theorem dM_more_179 : decode cM_more 179 = .ok (.ifCond .eq 26, 3) := by decide +kernel
theorem dM_more_182 : decode cM_more 182 = .ok (.aload_n 0, 1) := by decide +kernel
theorem dM_more_183 : decode cM_more 183 = .ok (.aload_n 0, 1) := by decide +kernel
theorem dM_more_184 : decode cM_more 184 = .ok (.bipush 6, 2) := by decide +kernel
theorem dM_more_186 : decode cM_more 186 = .ok (.invokevirtual 62, 3) := by decide +kernel
theorem dM_more_189 : decode cM_more 189 = .ok (.aload_n 0, 1) := by decide +kernel
theorem dM_more_190 : decode cM_more 190 = .ok (.iload 4, 2) := by decide +kernel
theorem dM_more_192 : decode cM_more 192 = .ok (.invokevirtual 191, 3) := by decide +kernel
theorem dM_more_195 : decode cM_more 195 = .ok (.iload 6, 2) := by decide +kernel
theorem dM_more_197 : decode cM_more 197 = .ok (.bipush 16, 2) := by decide +kernel
theorem dM_more_199 : decode cM_more 199 = .ok (.invokevirtual 94, 3) := by decide +kernel
theorem dM_more_202 : decode cM_more 202 = .ok (.goto 23, 3) := by decide +kernel
theorem dM_more_205 : decode cM_more 205 = .ok (.aload_n 0, 1) := by decide +kernel
theorem dM_more_206 : decode cM_more 206 = .ok (.aload_n 0, 1) := by decide +kernel
theorem dM_more_207 : decode cM_more 207 = .ok (.bipush 6, 2) := by decide +kernel
theorem dM_more_209 : decode cM_more 209 = .ok (.invokevirtual 62, 3) := by decide +kernel
theorem dM_more_212 : decode cM_more 212 = .ok (.aload_n 0, 1) := by decide +kernel
theorem dM_more_213 : decode cM_more 213 = .ok (.iload 4, 2) := by decide +kernel
theorem dM_more_215 : decode cM_more 215 = .ok (.invokevirtual 191, 3) := by decide +kernel
theorem dM_more_218 : decode cM_more 218 = .ok (.iload 6, 2) := by decide +kernel
theorem dM_more_220 : decode cM_more 220 = .ok (.bipush 16, 2) := by decide +kernel
theorem dM_more_222 : decode cM_more 222 = .ok (.invokevirtual 104, 3) := by decide +kernel
theorem dM_more_225 : decode cM_more 225 = .ok (.istore 7, 2) := by decide +kernel
theorem dM_more_227 : decode cM_more 227 = .ok (.aload_n 0, 1) := by decide +kernel
theorem dM_more_228 : decode cM_more 228 = .ok (.bipush 6, 2) := by decide +kernel
theorem dM_more_230 : decode cM_more 230 = .ok (.iload 7, 2) := by decide +kernel
theorem dM_more_232 : decode cM_more 232 = .ok (.invokevirtual 65, 3) := by decide +kernel
theorem dM_more_235 : decode cM_more 235 = .ok (.aload_n 0, 1) := by decide +kernel
theorem dM_more_236 : decode cM_more 236 = .ok (.getfield 13, 3) := by decide +kernel
theorem dM_more_239 : decode cM_more 239 = .ok (.iconst 1, 1) := by decide +kernel
theorem dM_more_240 : decode cM_more 240 = .ok (.iload 7, 2) := by decide +kernel
theorem dM_more_242 : decode cM_more 242 = .ok (.bipush 8, 2) := by decide +kernel
theorem dM_more_244 : decode cM_more 244 = .ok (.ishr, 1) := by decide +kernel
theorem dM_more_245 : decode cM_more 245 = .ok (.sipush 168, 3) := by decide +kernel
theorem dM_more_248 : decode cM_more 248 = .ok (.iand, 1) := by decide +kernel
theorem dM_more_249 : decode cM_more 249 = .ok (.iload 7, 2) := by decide +kernel
theorem dM_more_251 : decode cM_more 251 = .ok (.ifCond .ne 8, 3) := by decide +kernel
theorem dM_more_254 : decode cM_more 254 = .ok (.bipush 64, 2) := by decide +kernel
theorem dM_more_256 : decode cM_more 256 = .ok (.goto 4, 3) := by decide +kernel
theorem dM_more_259 : decode cM_more 259 = .ok (.iconst 0, 1) := by decide +kernel
theorem dM_more_260 : decode cM_more 260 = .ok (.ior, 1) := by decide +kernel
theorem dM_more_261 : decode cM_more 261 = .ok (.aload_n 0, 1) := by decide +kernel
theorem dM_more_262 : decode cM_more 262 = .ok (.iload 5, 2) := by decide +kernel
theorem dM_more_264 : decode cM_more 264 = .ok (.ifCond .eq 7, 3) := by decide +kernel
theorem dM_more_267 : decode cM_more 267 = .ok (.iconst 0, 1) := by decide +kernel
theorem dM_more_268 : decode cM_more 268 = .ok (.goto 4, 3) := by decide +kernel
theorem dM_more_271 : decode cM_more 271 = .ok (.iconst 2, 1) := by decide +kernel
theorem dM_more_272 : decode cM_more 272 = .ok (.invokevirtual 101, 3) := by decide +kernel
theorem dM_more_275 : decode cM_more 275 = .ok (.ior, 1) := by decide +kernel
theorem dM_more_276 : decode cM_more 276 = .ok (.iastore, 1) := by decide +kernel
theorem dM_more_277 : decode cM_more 277 = .ok (.goto 149, 3) := by decide +kernel
theorem dM_more_280 : decode cM_more 280 = .ok (.iload_n 3, 1) := by decide +kernel
theorem dM_more_281 : decode cM_more 281 = .ok (.iconst 3, 1) := by decide +kernel
theorem dM_more_282 : decode cM_more 282 = .ok (.if_icmp .ne 44, 3) := by decide +kernel
theorem dM_more_285 : decode cM_more 285 = .ok (.aload_n 0, 1) := by decide +kernel
theorem dM_more_286 : decode cM_more 286 = .ok (.invokevirtual 197, 3) := by decide +kernel
theorem dM_more_289 : decode cM_more 289 = .ok (.istore 6, 2) := by decide +kernel
theorem dM_more_291 : decode cM_more 291 = .ok (.iload 5, 2) := by decide +kernel
theorem dM_more_293 : decode cM_more 293 = .ok (.ifCond .eq 18, 3) := by decide +kernel
theorem dM_more_296 : decode cM_more 296 = .ok (.aload_n 0, 1) := by decide +kernel
theorem dM_more_297 : decode cM_more 297 = .ok (.iload 4, 2) := by decide +kernel
theorem dM_more_299 : decode cM_more 299 = .ok (.aload_n 0, 1) := by decide +kernel
theorem dM_more_300 : decode cM_more 300 = .ok (.iload 6, 2) := by decide +kernel
theorem dM_more_302 : decode cM_more 302 = .ok (.invokevirtual 164, 3) := by decide +kernel
theorem dM_more_305 : decode cM_more 305 = .ok (.invokevirtual 200, 3) := by decide +kernel
theorem dM_more_308 : decode cM_more 308 = .ok (.goto 15, 3) := by decide +kernel
theorem dM_more_311 : decode cM_more 311 = .ok (.aload_n 0, 1) := by decide +kernel
theorem dM_more_312 : decode cM_more 312 = .ok (.iload 6, 2) := by decide +kernel
theorem dM_more_314 : decode cM_more 314 = .ok (.aload_n 0, 1) := by decide +kernel
theorem dM_more_315 : decode cM_more 315 = .ok (.iload 4, 2) := by decide +kernel
theorem dM_more_317 : decode cM_more 317 = .ok (.invokevirtual 191, 3) := by decide +kernel
theorem dM_more_320 : decode cM_more 320 = .ok (.invokevirtual 221, 3) := by decide +kernel
theorem dM_more_323 : decode cM_more 323 = .ok (.goto 103, 3) := by decide +kernel
theorem dM_more_326 : decode cM_more 326 = .ok (.iload_n 3, 1) := by decide +kernel
theorem dM_more_327 : decode cM_more 327 = .ok (.iconst 4, 1) := by decide +kernel
theorem dM_more_328 : decode cM_more 328 = .ok (.if_icmp .ne 28, 3) := by decide +kernel
theorem dM_more_331 : decode cM_more 331 = .ok (.aload_n 0, 1) := by decide +kernel
theorem dM_more_332 : decode cM_more 332 = .ok (.getfield 13, 3) := by decide +kernel
theorem dM_more_335 : decode cM_more 335 = .ok (.iconst 0, 1) := by decide +kernel
theorem dM_more_336 : decode cM_more 336 = .ok (.iaload, 1) := by decide +kernel
theorem dM_more_337 : decode cM_more 337 = .ok (.istore 6, 2) := by decide +kernel
theorem dM_more_339 : decode cM_more 339 = .ok (.aload_n 0, 1) := by decide +kernel
