theorem dH_init_0 : decode cH_init 0 = .ok (.aload_n 0, 1) := by decide +kernel
theorem dH_init_1 : decode cH_init 1 = .ok (.invokespecial 1, 3) := by decide +kernel
theorem dH_init_4 : decode cH_init 4 = .ok (.aload_n 0, 1) := by decide +kernel
theorem dH_init_5 : decode cH_init 5 = .ok (.new 7, 3) := by decide +kernel
theorem dH_init_8 : decode cH_init 8 = .ok (.dup, 1) := by decide +kernel
theorem dH_init_9 : decode cH_init 9 = .ok (.invokespecial 9, 3) := by decide +kernel
theorem dH_init_12 : decode cH_init 12 = .ok (.putfield 10, 3) := by decide +kernel
theorem dH_init_15 : decode cH_init 15 = .ok (.aload_n 0, 1) := by decide +kernel
theorem dH_init_16 : decode cH_init 16 = .ok (.new 16, 3) := by decide +kernel
theorem dH_init_19 : decode cH_init 19 = .ok (.dup, 1) := by decide +kernel
theorem dH_init_20 : decode cH_init 20 = .ok (.aload_n 0, 1) := by decide +kernel
theorem dH_init_21 : decode cH_init 21 = .ok (.getfield 10, 3) := by decide +kernel
theorem dH_init_24 : decode cH_init 24 = .ok (.invokespecial 18, 3) := by decide +kernel
theorem dH_init_27 : decode cH_init 27 = .ok (.putfield 21, 3) := by decide +kernel
theorem dH_init_30 : decode cH_init 30 = .ok (.return_, 1) := by decide +kernel
theorem dH_poke_0 : decode cH_poke 0 = .ok (.aload_n 0, 1) := by decide +kernel
theorem dH_poke_1 : decode cH_poke 1 = .ok (.getfield 10, 3) := by decide +kernel
theorem dH_poke_4 : decode cH_poke 4 = .ok (.iload_n 1, 1) := by decide +kernel
theorem dH_poke_5 : decode cH_poke 5 = .ok (.iload_n 2, 1) := by decide +kernel
theorem dH_poke_6 : decode cH_poke 6 = .ok (.invokevirtual 25, 3) := by decide +kernel
theorem dH_poke_9 : decode cH_poke 9 = .ok (.return_, 1) := by decide +kernel
theorem dH_load_0 : decode cH_load 0 = .ok (.iload_n 3, 1) := by decide +kernel
theorem dH_load_1 : decode cH_load 1 = .ok (.iconst 1, 1) := by decide +kernel
theorem dH_load_2 : decode cH_load 2 = .ok (.if_icmp .lt 8, 3) := by decide +kernel
theorem dH_load_5 : decode cH_load 5 = .ok (.iload_n 3, 1) := by decide +kernel
theorem dH_load_6 : decode cH_load 6 = .ok (.iconst 4, 1) := by decide +kernel
theorem dH_load_7 : decode cH_load 7 = .ok (.if_icmp .le 5, 3) := by decide +kernel
theorem dH_load_10 : decode cH_load 10 = .ok (.iconst 0, 1) := by decide +kernel
theorem dH_load_11 : decode cH_load 11 = .ok (.ireturn, 1) := by decide +kernel
theorem dH_load_12 : decode cH_load 12 = .ok (.iconst 0, 1) := by decide +kernel
theorem dH_load_13 : decode cH_load 13 = .ok (.istore 4, 2) := by decide +kernel
theorem dH_load_15 : decode cH_load 15 = .ok (.iload 4, 2) := by decide +kernel
theorem dH_load_17 : decode cH_load 17 = .ok (.iload_n 3, 1) := by decide +kernel
theorem dH_load_18 : decode cH_load 18 = .ok (.if_icmp .ge 30, 3) := by decide +kernel
theorem dH_load_21 : decode cH_load 21 = .ok (.aload_n 0, 1) := by decide +kernel
theorem dH_load_22 : decode cH_load 22 = .ok (.getfield 10, 3) := by decide +kernel
theorem dH_load_25 : decode cH_load 25 = .ok (.iload_n 1, 1) := by decide +kernel
theorem dH_load_26 : decode cH_load 26 = .ok (.iload 4, 2) := by decide +kernel
theorem dH_load_28 : decode cH_load 28 = .ok (.iadd, 1) := by decide +kernel
theorem dH_load_29 : decode cH_load 29 = .ok (.iload_n 2, 1) := by decide +kernel
theorem dH_load_30 : decode cH_load 30 = .ok (.bipush 24, 2) := by decide +kernel
theorem dH_load_32 : decode cH_load 32 = .ok (.bipush 8, 2) := by decide +kernel
theorem dH_load_34 : decode cH_load 34 = .ok (.iload 4, 2) := by decide +kernel
theorem dH_load_36 : decode cH_load 36 = .ok (.imul, 1) := by decide +kernel
theorem dH_load_37 : decode cH_load 37 = .ok (.isub, 1) := by decide +kernel
theorem dH_load_38 : decode cH_load 38 = .ok (.iushr, 1) := by decide +kernel
theorem dH_load_39 : decode cH_load 39 = .ok (.invokevirtual 25, 3) := by decide +kernel
theorem dH_load_42 : decode cH_load 42 = .ok (.iinc 4 1, 3) := by decide +kernel
theorem dH_load_45 : decode cH_load 45 = .ok (.goto (-30), 3) := by decide +kernel
theorem dH_load_48 : decode cH_load 48 = .ok (.iconst 1, 1) := by decide +kernel
theorem dH_load_49 : decode cH_load 49 = .ok (.ireturn, 1) := by decide +kernel
theorem dH_peek_0 : decode cH_peek 0 = .ok (.aload_n 0, 1) := by decide +kernel
theorem dH_peek_1 : decode cH_peek 1 = .ok (.getfield 10, 3) := by decide +kernel
theorem dH_peek_4 : decode cH_peek 4 = .ok (.iload_n 1, 1) := by decide +kernel
theorem dH_peek_5 : decode cH_peek 5 = .ok (.invokevirtual 29, 3) := by decide +kernel
theorem dH_peek_8 : decode cH_peek 8 = .ok (.ireturn, 1) := by decide +kernel
theorem dH_set_0 : decode cH_set 0 = .ok (.aload_n 0, 1) := by decide +kernel
theorem dH_set_1 : decode cH_set 1 = .ok (.getfield 21, 3) := by decide +kernel
theorem dH_set_4 : decode cH_set 4 = .ok (.getfield 33, 3) := by decide +kernel
theorem dH_set_7 : decode cH_set 7 = .ok (.iload_n 1, 1) := by decide +kernel
theorem dH_set_8 : decode cH_set 8 = .ok (.iload_n 2, 1) := by decide +kernel
theorem dH_set_9 : decode cH_set 9 = .ok (.invokevirtual 37, 3) := by decide +kernel
theorem dH_set_12 : decode cH_set 12 = .ok (.ireturn, 1) := by decide +kernel
theorem dH_register_0 : decode cH_register 0 = .ok (.aload_n 0, 1) := by decide +kernel
theorem dH_register_1 : decode cH_register 1 = .ok (.getfield 21, 3) := by decide +kernel
theorem dH_register_4 : decode cH_register 4 = .ok (.getfield 33, 3) := by decide +kernel
theorem dH_register_7 : decode cH_register 7 = .ok (.iload_n 1, 1) := by decide +kernel
theorem dH_register_8 : decode cH_register 8 = .ok (.invokevirtual 43, 3) := by decide +kernel
theorem dH_register_11 : decode cH_register 11 = .ok (.ireturn, 1) := by decide +kernel
theorem dH_key_0 : decode cH_key 0 = .ok (.aload_n 0, 1) := by decide +kernel
theorem dH_key_1 : decode cH_key 1 = .ok (.getfield 10, 3) := by decide +kernel
theorem dH_key_4 : decode cH_key 4 = .ok (.getfield 46, 3) := by decide +kernel
theorem dH_key_7 : decode cH_key 7 = .ok (.iload_n 1, 1) := by decide +kernel
theorem dH_key_8 : decode cH_key 8 = .ok (.iload_n 2, 1) := by decide +kernel
theorem dH_key_9 : decode cH_key 9 = .ok (.iload_n 3, 1) := by decide +kernel
theorem dH_key_10 : decode cH_key 10 = .ok (.invokevirtual 50, 3) := by decide +kernel
theorem dH_key_13 : decode cH_key 13 = .ok (.ireturn, 1) := by decide +kernel
theorem dH_pulse_0 : decode cH_pulse 0 = .ok (.aload_n 0, 1) := by decide +kernel
theorem dH_pulse_1 : decode cH_pulse 1 = .ok (.getfield 10, 3) := by decide +kernel
theorem dH_pulse_4 : decode cH_pulse 4 = .ok (.getfield 56, 3) := by decide +kernel
theorem dH_pulse_7 : decode cH_pulse 7 = .ok (.aload_n 0, 1) := by decide +kernel
theorem dH_pulse_8 : decode cH_pulse 8 = .ok (.getfield 10, 3) := by decide +kernel
theorem dH_pulse_11 : decode cH_pulse 11 = .ok (.getfield 60, 3) := by decide +kernel
theorem dH_pulse_14 : decode cH_pulse 14 = .ok (.invokevirtual 64, 3) := by decide +kernel
theorem dH_pulse_17 : decode cH_pulse 17 = .ok (.aload_n 0, 1) := by decide +kernel
theorem dH_pulse_18 : decode cH_pulse 18 = .ok (.getfield 10, 3) := by decide +kernel
theorem dH_pulse_21 : decode cH_pulse 21 = .ok (.getfield 56, 3) := by decide +kernel
theorem dH_pulse_24 : decode cH_pulse 24 = .ok (.iload_n 1, 1) := by decide +kernel
theorem dH_pulse_25 : decode cH_pulse 25 = .ok (.invokevirtual 70, 3) := by decide +kernel
theorem dH_pulse_28 : decode cH_pulse 28 = .ok (.ireturn, 1) := by decide +kernel
theorem dH_tape_0 : decode cH_tape 0 = .ok (.aload_n 0, 1) := by decide +kernel
theorem dH_tape_1 : decode cH_tape 1 = .ok (.getfield 10, 3) := by decide +kernel
theorem dH_tape_4 : decode cH_tape 4 = .ok (.getfield 56, 3) := by decide +kernel
theorem dH_tape_7 : decode cH_tape 7 = .ok (.aload_n 0, 1) := by decide +kernel
theorem dH_tape_8 : decode cH_tape 8 = .ok (.getfield 10, 3) := by decide +kernel
theorem dH_tape_11 : decode cH_tape 11 = .ok (.getfield 60, 3) := by decide +kernel
theorem dH_tape_14 : decode cH_tape 14 = .ok (.invokevirtual 64, 3) := by decide +kernel
theorem dH_tape_17 : decode cH_tape 17 = .ok (.aload_n 0, 1) := by decide +kernel
theorem dH_tape_18 : decode cH_tape 18 = .ok (.getfield 10, 3) := by decide +kernel
theorem dH_tape_21 : decode cH_tape 21 = .ok (.getfield 56, 3) := by decide +kernel
theorem dH_tape_24 : decode cH_tape 24 = .ok (.iload_n 1, 1) := by decide +kernel
theorem dH_tape_25 : decode cH_tape 25 = .ok (.aload_n 0, 1) := by decide +kernel
theorem dH_tape_26 : decode cH_tape 26 = .ok (.getfield 10, 3) := by decide +kernel
theorem dH_tape_29 : decode cH_tape 29 = .ok (.getfield 60, 3) := by decide +kernel
theorem dH_tape_32 : decode cH_tape 32 = .ok (.invokevirtual 74, 3) := by decide +kernel
theorem dH_tape_35 : decode cH_tape 35 = .ok (.ireturn, 1) := by decide +kernel
theorem dH_step_0 : decode cH_step 0 = .ok (.iload_n 1, 1) := by decide +kernel
theorem dH_step_1 : decode cH_step 1 = .ok (.iconst 1, 1) := by decide +kernel
theorem dH_step_2 : decode cH_step 2 = .ok (.if_icmp .lt 9, 3) := by decide +kernel
theorem dH_step_5 : decode cH_step 5 = .ok (.iload_n 1, 1) := by decide +kernel
theorem dH_step_6 : decode cH_step 6 = .ok (.bipush 100, 2) := by decide +kernel
theorem dH_step_8 : decode cH_step 8 = .ok (.if_icmp .le 5, 3) := by decide +kernel
theorem dH_step_11 : decode cH_step 11 = .ok (.iconst (-1), 1) := by decide +kernel
theorem dH_step_12 : decode cH_step 12 = .ok (.ireturn, 1) := by decide +kernel
theorem dH_step_13 : decode cH_step 13 = .ok (.aload_n 0, 1) := by decide +kernel
theorem dH_step_14 : decode cH_step 14 = .ok (.getfield 10, 3) := by decide +kernel
theorem dH_step_17 : decode cH_step 17 = .ok (.getfield 60, 3) := by decide +kernel
theorem dH_step_20 : decode cH_step 20 = .ok (.istore_n 2, 1) := by decide +kernel
theorem dH_step_21 : decode cH_step 21 = .ok (.iconst 0, 1) := by decide +kernel
theorem dH_step_22 : decode cH_step 22 = .ok (.istore_n 3, 1) := by decide +kernel
theorem dH_step_23 : decode cH_step 23 = .ok (.iload_n 3, 1) := by decide +kernel
theorem dH_step_24 : decode cH_step 24 = .ok (.iload_n 1, 1) := by decide +kernel
theorem dH_step_25 : decode cH_step 25 = .ok (.if_icmp .ge 16, 3) := by decide +kernel
theorem dH_step_28 : decode cH_step 28 = .ok (.aload_n 0, 1) := by decide +kernel
theorem dH_step_29 : decode cH_step 29 = .ok (.getfield 21, 3) := by decide +kernel
theorem dH_step_32 : decode cH_step 32 = .ok (.invokevirtual 77, 3) := by decide +kernel
theorem dH_step_35 : decode cH_step 35 = .ok (.iinc 3 1, 3) := by decide +kernel
theorem dH_step_38 : decode cH_step 38 = .ok (.goto (-15), 3) := by decide +kernel
theorem dH_step_41 : decode cH_step 41 = .ok (.aload_n 0, 1) := by decide +kernel
theorem dH_step_42 : decode cH_step 42 = .ok (.getfield 10, 3) := by decide +kernel
theorem dH_step_45 : decode cH_step 45 = .ok (.getfield 60, 3) := by decide +kernel
theorem dH_step_48 : decode cH_step 48 = .ok (.iload_n 2, 1) := by decide +kernel
theorem dH_step_49 : decode cH_step 49 = .ok (.isub, 1) := by decide +kernel
theorem dH_step_50 : decode cH_step 50 = .ok (.ireturn, 1) := by decide +kernel
theorem dH_frame_0 : decode cH_frame 0 = .ok (.aload_n 0, 1) := by decide +kernel
theorem dH_frame_1 : decode cH_frame 1 = .ok (.getfield 10, 3) := by decide +kernel
theorem dH_frame_4 : decode cH_frame 4 = .ok (.invokevirtual 80, 3) := by decide +kernel
theorem dH_frame_7 : decode cH_frame 7 = .ok (.istore_n 1, 1) := by decide +kernel
theorem dH_frame_8 : decode cH_frame 8 = .ok (.iconst 0, 1) := by decide +kernel
theorem dH_frame_9 : decode cH_frame 9 = .ok (.istore_n 2, 1) := by decide +kernel
theorem dH_frame_10 : decode cH_frame 10 = .ok (.iload_n 2, 1) := by decide +kernel
theorem dH_frame_11 : decode cH_frame 11 = .ok (.sipush 1100, 3) := by decide +kernel
theorem dH_frame_14 : decode cH_frame 14 = .ok (.if_icmp .ge 27, 3) := by decide +kernel
theorem dH_frame_17 : decode cH_frame 17 = .ok (.aload_n 0, 1) := by decide +kernel
theorem dH_frame_18 : decode cH_frame 18 = .ok (.getfield 10, 3) := by decide +kernel
theorem dH_frame_21 : decode cH_frame 21 = .ok (.invokevirtual 80, 3) := by decide +kernel
theorem dH_frame_24 : decode cH_frame 24 = .ok (.iload_n 1, 1) := by decide +kernel
theorem dH_frame_25 : decode cH_frame 25 = .ok (.if_icmp .ne 16, 3) := by decide +kernel
theorem dH_frame_28 : decode cH_frame 28 = .ok (.aload_n 0, 1) := by decide +kernel
theorem dH_frame_29 : decode cH_frame 29 = .ok (.getfield 21, 3) := by decide +kernel
theorem dH_frame_32 : decode cH_frame 32 = .ok (.invokevirtual 77, 3) := by decide +kernel
theorem dH_frame_35 : decode cH_frame 35 = .ok (.iinc 2 1, 3) := by decide +kernel
theorem dH_frame_38 : decode cH_frame 38 = .ok (.goto (-28), 3) := by decide +kernel
theorem dH_frame_41 : decode cH_frame 41 = .ok (.iload_n 2, 1) := by decide +kernel
theorem dH_frame_42 : decode cH_frame 42 = .ok (.ireturn, 1) := by decide +kernel
theorem dH_look_0 : decode cH_look 0 = .ok (.aload_n 0, 1) := by decide +kernel
theorem dH_look_1 : decode cH_look 1 = .ok (.getfield 10, 3) := by decide +kernel
theorem dH_look_4 : decode cH_look 4 = .ok (.getfield 56, 3) := by decide +kernel
theorem dH_look_7 : decode cH_look 7 = .ok (.aload_n 0, 1) := by decide +kernel
theorem dH_look_8 : decode cH_look 8 = .ok (.getfield 10, 3) := by decide +kernel
theorem dH_look_11 : decode cH_look 11 = .ok (.getfield 60, 3) := by decide +kernel
theorem dH_look_14 : decode cH_look 14 = .ok (.invokevirtual 64, 3) := by decide +kernel
theorem dH_look_17 : decode cH_look 17 = .ok (.iload_n 1, 1) := by decide +kernel
theorem dH_look_18 : decode cH_look 18 = .ok (.tableswitch 115 0 6 #[42, 50, 58, 66, 74, 85, 104], 42) := by decide +kernel
theorem dH_look_60 : decode cH_look 60 = .ok (.aload_n 0, 1) := by decide +kernel
theorem dH_look_61 : decode cH_look 61 = .ok (.getfield 10, 3) := by decide +kernel
theorem dH_look_64 : decode cH_look 64 = .ok (.invokevirtual 80, 3) := by decide +kernel
theorem dH_look_67 : decode cH_look 67 = .ok (.ireturn, 1) := by decide +kernel
theorem dH_look_68 : decode cH_look 68 = .ok (.aload_n 0, 1) := by decide +kernel
theorem dH_look_69 : decode cH_look 69 = .ok (.getfield 10, 3) := by decide +kernel
theorem dH_look_72 : decode cH_look 72 = .ok (.invokevirtual 84, 3) := by decide +kernel
theorem dH_look_75 : decode cH_look 75 = .ok (.ireturn, 1) := by decide +kernel
theorem dH_look_76 : decode cH_look 76 = .ok (.aload_n 0, 1) := by decide +kernel
theorem dH_look_77 : decode cH_look 77 = .ok (.getfield 10, 3) := by decide +kernel
theorem dH_look_80 : decode cH_look 80 = .ok (.getfield 87, 3) := by decide +kernel
theorem dH_look_83 : decode cH_look 83 = .ok (.ireturn, 1) := by decide +kernel
theorem dH_look_84 : decode cH_look 84 = .ok (.aload_n 0, 1) := by decide +kernel
theorem dH_look_85 : decode cH_look 85 = .ok (.getfield 10, 3) := by decide +kernel
theorem dH_look_88 : decode cH_look 88 = .ok (.getfield 90, 3) := by decide +kernel
theorem dH_look_91 : decode cH_look 91 = .ok (.ireturn, 1) := by decide +kernel
theorem dH_look_92 : decode cH_look 92 = .ok (.aload_n 0, 1) := by decide +kernel
theorem dH_look_93 : decode cH_look 93 = .ok (.getfield 10, 3) := by decide +kernel
theorem dH_look_96 : decode cH_look 96 = .ok (.getfield 56, 3) := by decide +kernel
theorem dH_look_99 : decode cH_look 99 = .ok (.invokevirtual 93, 3) := by decide +kernel
theorem dH_look_102 : decode cH_look 102 = .ok (.ireturn, 1) := by decide +kernel
theorem dH_look_103 : decode cH_look 103 = .ok (.aload_n 0, 1) := by decide +kernel
theorem dH_look_104 : decode cH_look 104 = .ok (.getfield 10, 3) := by decide +kernel
theorem dH_look_107 : decode cH_look 107 = .ok (.getfield 56, 3) := by decide +kernel
theorem dH_look_110 : decode cH_look 110 = .ok (.getfield 96, 3) := by decide +kernel
theorem dH_look_113 : decode cH_look 113 = .ok (.ifCond .eq 7, 3) := by decide +kernel
theorem dH_look_116 : decode cH_look 116 = .ok (.iconst 1, 1) := by decide +kernel
theorem dH_look_117 : decode cH_look 117 = .ok (.goto 4, 3) := by decide +kernel
theorem dH_look_120 : decode cH_look 120 = .ok (.iconst 0, 1) := by decide +kernel
theorem dH_look_121 : decode cH_look 121 = .ok (.ireturn, 1) := by decide +kernel
theorem dH_look_122 : decode cH_look 122 = .ok (.aload_n 0, 1) := by decide +kernel
theorem dH_look_123 : decode cH_look 123 = .ok (.getfield 10, 3) := by decide +kernel
theorem dH_look_126 : decode cH_look 126 = .ok (.getfield 56, 3) := by decide +kernel
theorem dH_look_129 : decode cH_look 129 = .ok (.getfield 100, 3) := by decide +kernel
theorem dH_look_132 : decode cH_look 132 = .ok (.ireturn, 1) := by decide +kernel
theorem dH_look_133 : decode cH_look 133 = .ok (.iconst (-1), 1) := by decide +kernel
theorem dH_look_134 : decode cH_look 134 = .ok (.ireturn, 1) := by decide +kernel
theorem dH_stripe_0 : decode cH_stripe 0 = .ok (.iload_n 1, 1) := by decide +kernel
theorem dH_stripe_1 : decode cH_stripe 1 = .ok (.ifCond .lt 9, 3) := by decide +kernel
theorem dH_stripe_4 : decode cH_stripe 4 = .ok (.iload_n 1, 1) := by decide +kernel
theorem dH_stripe_5 : decode cH_stripe 5 = .ok (.bipush 64, 2) := by decide +kernel
theorem dH_stripe_7 : decode cH_stripe 7 = .ok (.if_icmp .lt 5, 3) := by decide +kernel
theorem dH_stripe_10 : decode cH_stripe 10 = .ok (.iconst (-1), 1) := by decide +kernel
theorem dH_stripe_11 : decode cH_stripe 11 = .ok (.ireturn, 1) := by decide +kernel
theorem dH_stripe_12 : decode cH_stripe 12 = .ok (.aload_n 0, 1) := by decide +kernel
theorem dH_stripe_13 : decode cH_stripe 13 = .ok (.getfield 10, 3) := by decide +kernel
theorem dH_stripe_16 : decode cH_stripe 16 = .ok (.getfield 103, 3) := by decide +kernel
theorem dH_stripe_19 : decode cH_stripe 19 = .ok (.iload_n 1, 1) := by decide +kernel
theorem dH_stripe_20 : decode cH_stripe 20 = .ok (.iaload, 1) := by decide +kernel
theorem dH_stripe_21 : decode cH_stripe 21 = .ok (.ireturn, 1) := by decide +kernel
theorem dM_init_0 : decode cM_init 0 = .ok (.aload_n 0, 1) := by decide +kernel
theorem dM_init_1 : decode cM_init 1 = .ok (.invokespecial 1, 3) := by decide +kernel
theorem dM_init_4 : decode cM_init 4 = .ok (.aload_n 0, 1) := by decide +kernel
theorem dM_init_5 : decode cM_init 5 = .ok (.sipush 4096, 3) := by decide +kernel
theorem dM_init_8 : decode cM_init 8 = .ok (.newarray .int, 2) := by decide +kernel
theorem dM_init_10 : decode cM_init 10 = .ok (.putfield 7, 3) := by decide +kernel
theorem dM_init_13 : decode cM_init 13 = .ok (.aload_n 0, 1) := by decide +kernel
theorem dM_init_14 : decode cM_init 14 = .ok (.bipush 26, 2) := by decide +kernel
theorem dM_init_16 : decode cM_init 16 = .ok (.newarray .int, 2) := by decide +kernel
theorem dM_init_18 : decode cM_init 18 = .ok (.putfield 13, 3) := by decide +kernel
theorem dM_init_21 : decode cM_init 21 = .ok (.aload_n 0, 1) := by decide +kernel
theorem dM_init_22 : decode cM_init 22 = .ok (.bipush 40, 2) := by decide +kernel
theorem dM_init_24 : decode cM_init 24 = .ok (.newarray .boolean, 2) := by decide +kernel
theorem dM_init_26 : decode cM_init 26 = .ok (.putfield 16, 3) := by decide +kernel
theorem dM_init_29 : decode cM_init 29 = .ok (.aload_n 0, 1) := by decide +kernel
theorem dM_init_30 : decode cM_init 30 = .ok (.bipush 64, 2) := by decide +kernel
theorem dM_init_32 : decode cM_init 32 = .ok (.newarray .int, 2) := by decide +kernel
theorem dM_init_34 : decode cM_init 34 = .ok (.putfield 20, 3) := by decide +kernel
theorem dM_init_37 : decode cM_init 37 = .ok (.aload_n 0, 1) := by decide +kernel
theorem dM_init_38 : decode cM_init 38 = .ok (.bipush 40, 2) := by decide +kernel
theorem dM_init_40 : decode cM_init 40 = .ok (.newarray .int, 2) := by decide +kernel
theorem dM_init_42 : decode cM_init 42 = .ok (.putfield 23, 3) := by decide +kernel
theorem dM_init_45 : decode cM_init 45 = .ok (.return_, 1) := by decide +kernel
theorem dM_pass_0 : decode cM_pass 0 = .ok (.iconst 0, 1) := by decide +kernel
theorem dM_pass_1 : decode cM_pass 1 = .ok (.istore_n 2, 1) := by decide +kernel
theorem dM_pass_2 : decode cM_pass 2 = .ok (.iload_n 2, 1) := by decide +kernel
theorem dM_pass_3 : decode cM_pass 3 = .ok (.iload_n 1, 1) := by decide +kernel
theorem dM_pass_4 : decode cM_pass 4 = .ok (.if_icmp .ge 49, 3) := by decide +kernel
theorem dM_pass_7 : decode cM_pass 7 = .ok (.aload_n 0, 1) := by decide +kernel
theorem dM_pass_8 : decode cM_pass 8 = .ok (.dup, 1) := by decide +kernel
theorem dM_pass_9 : decode cM_pass 9 = .ok (.getfield 26, 3) := by decide +kernel
theorem dM_pass_12 : decode cM_pass 12 = .ok (.iconst 1, 1) := by decide +kernel
theorem dM_pass_13 : decode cM_pass 13 = .ok (.iadd, 1) := by decide +kernel
theorem dM_pass_14 : decode cM_pass 14 = .ok (.putfield 26, 3) := by decide +kernel
theorem dM_pass_17 : decode cM_pass 17 = .ok (.aload_n 0, 1) := by decide +kernel
theorem dM_pass_18 : decode cM_pass 18 = .ok (.getfield 26, 3) := by decide +kernel
theorem dM_pass_21 : decode cM_pass 21 = .ok (.bipush 64, 2) := by decide +kernel
theorem dM_pass_23 : decode cM_pass 23 = .ok (.irem, 1) := by decide +kernel
theorem dM_pass_24 : decode cM_pass 24 = .ok (.ifCond .ne 23, 3) := by decide +kernel
theorem dM_pass_27 : decode cM_pass 27 = .ok (.aload_n 0, 1) := by decide +kernel
theorem dM_pass_28 : decode cM_pass 28 = .ok (.getfield 20, 3) := by decide +kernel
theorem dM_pass_31 : decode cM_pass 31 = .ok (.aload_n 0, 1) := by decide +kernel
theorem dM_pass_32 : decode cM_pass 32 = .ok (.getfield 26, 3) := by decide +kernel
theorem dM_pass_35 : decode cM_pass 35 = .ok (.sipush 4096, 3) := by decide +kernel
theorem dM_pass_38 : decode cM_pass 38 = .ok (.irem, 1) := by decide +kernel
theorem dM_pass_39 : decode cM_pass 39 = .ok (.bipush 64, 2) := by decide +kernel
theorem dM_pass_41 : decode cM_pass 41 = .ok (.idiv, 1) := by decide +kernel
theorem dM_pass_42 : decode cM_pass 42 = .ok (.aload_n 0, 1) := by decide +kernel
theorem dM_pass_43 : decode cM_pass 43 = .ok (.getfield 30, 3) := by decide +kernel
theorem dM_pass_46 : decode cM_pass 46 = .ok (.iastore, 1) := by decide +kernel
theorem dM_pass_47 : decode cM_pass 47 = .ok (.iinc 2 1, 3) := by decide +kernel
theorem dM_pass_50 : decode cM_pass 50 = .ok (.goto (-48), 3) := by decide +kernel
theorem dM_pass_53 : decode cM_pass 53 = .ok (.return_, 1) := by decide +kernel
theorem dM_slow_0 : decode cM_slow 0 = .ok (.aload_n 0, 1) := by decide +kernel
theorem dM_slow_1 : decode cM_slow 1 = .ok (.getfield 26, 3) := by decide +kernel
theorem dM_slow_4 : decode cM_slow 4 = .ok (.sipush 4096, 3) := by decide +kernel
theorem dM_slow_7 : decode cM_slow 7 = .ok (.irem, 1) := by decide +kernel
theorem dM_slow_8 : decode cM_slow 8 = .ok (.bipush 64, 2) := by decide +kernel
theorem dM_slow_10 : decode cM_slow 10 = .ok (.idiv, 1) := by decide +kernel
theorem dM_slow_11 : decode cM_slow 11 = .ok (.istore_n 1, 1) := by decide +kernel
theorem dM_slow_12 : decode cM_slow 12 = .ok (.aload_n 0, 1) := by decide +kernel
theorem dM_slow_13 : decode cM_slow 13 = .ok (.getfield 26, 3) := by decide +kernel
theorem dM_slow_16 : decode cM_slow 16 = .ok (.bipush 64, 2) := by decide +kernel
theorem dM_slow_18 : decode cM_slow 18 = .ok (.irem, 1) := by decide +kernel
theorem dM_slow_19 : decode cM_slow 19 = .ok (.istore_n 2, 1) := by decide +kernel
theorem dM_slow_20 : decode cM_slow 20 = .ok (.iload_n 1, 1) := by decide +kernel
theorem dM_slow_21 : decode cM_slow 21 = .ok (.bipush 16, 2) := by decide +kernel
theorem dM_slow_23 : decode cM_slow 23 = .ok (.if_icmp .lt 35, 3) := by decide +kernel
theorem dM_slow_26 : decode cM_slow 26 = .ok (.iload_n 1, 1) := by decide +kernel
theorem dM_slow_27 : decode cM_slow 27 = .ok (.bipush 48, 2) := by decide +kernel
theorem dM_slow_29 : decode cM_slow 29 = .ok (.if_icmp .ge 29, 3) := by decide +kernel
theorem dM_slow_32 : decode cM_slow 32 = .ok (.iload_n 2, 1) := by decide +kernel
theorem dM_slow_33 : decode cM_slow 33 = .ok (.bipush 32, 2) := by decide +kernel
theorem dM_slow_35 : decode cM_slow 35 = .ok (.if_icmp .ge 23, 3) := by decide +kernel
theorem dM_slow_38 : decode cM_slow 38 = .ok (.iload_n 2, 1) := by decide +kernel
theorem dM_slow_39 : decode cM_slow 39 = .ok (.bipush 7, 2) := by decide +kernel
theorem dM_slow_41 : decode cM_slow 41 = .ok (.iand, 1) := by decide +kernel
theorem dM_slow_42 : decode cM_slow 42 = .ok (.bipush 6, 2) := by decide +kernel
theorem dM_slow_44 : decode cM_slow 44 = .ok (.if_icmp .ge 14, 3) := by decide +kernel
theorem dM_slow_47 : decode cM_slow 47 = .ok (.aload_n 0, 1) := by decide +kernel
theorem dM_slow_48 : decode cM_slow 48 = .ok (.bipush 6, 2) := by decide +kernel
theorem dM_slow_50 : decode cM_slow 50 = .ok (.iload_n 2, 1) := by decide +kernel
theorem dM_slow_51 : decode cM_slow 51 = .ok (.bipush 7, 2) := by decide +kernel
theorem dM_slow_53 : decode cM_slow 53 = .ok (.iand, 1) := by decide +kernel
theorem dM_slow_54 : decode cM_slow 54 = .ok (.isub, 1) := by decide +kernel
theorem dM_slow_55 : decode cM_slow 55 = .ok (.invokevirtual 33, 3) := by decide +kernel
theorem dM_slow_58 : decode cM_slow 58 = .ok (.return_, 1) := by decide +kernel
theorem dM_reach_0 : decode cM_reach 0 = .ok (.iload_n 1, 1) := by decide +kernel
theorem dM_reach_1 : decode cM_reach 1 = .ok (.sipush 4095, 3) := by decide +kernel
theorem dM_reach_4 : decode cM_reach 4 = .ok (.iand, 1) := by decide +kernel
theorem dM_reach_5 : decode cM_reach 5 = .ok (.istore_n 3, 1) := by decide +kernel
theorem dM_reach_6 : decode cM_reach 6 = .ok (.iload_n 3, 1) := by decide +kernel
theorem dM_reach_7 : decode cM_reach 7 = .ok (.sipush 1024, 3) := by decide +kernel
theorem dM_reach_10 : decode cM_reach 10 = .ok (.if_icmp .lt 14, 3) := by decide +kernel
theorem dM_reach_13 : decode cM_reach 13 = .ok (.iload_n 3, 1) := by decide +kernel
theorem dM_reach_14 : decode cM_reach 14 = .ok (.sipush 2048, 3) := by decide +kernel
theorem dM_reach_17 : decode cM_reach 17 = .ok (.if_icmp .ge 7, 3) := by decide +kernel
theorem dM_reach_20 : decode cM_reach 20 = .ok (.aload_n 0, 1) := by decide +kernel
theorem dM_reach_21 : decode cM_reach 21 = .ok (.invokevirtual 37, 3) := by decide +kernel
theorem dM_reach_24 : decode cM_reach 24 = .ok (.aload_n 0, 1) := by decide +kernel
theorem dM_reach_25 : decode cM_reach 25 = .ok (.iload_n 2, 1) := by decide +kernel
theorem dM_reach_26 : decode cM_reach 26 = .ok (.invokevirtual 33, 3) := by decide +kernel
theorem dM_reach_29 : decode cM_reach 29 = .ok (.return_, 1) := by decide +kernel
theorem dM_read_0 : decode cM_read 0 = .ok (.aload_n 0, 1) := by decide +kernel
theorem dM_read_1 : decode cM_read 1 = .ok (.iload_n 1, 1) := by decide +kernel
theorem dM_read_2 : decode cM_read 2 = .ok (.iconst 3, 1) := by decide +kernel
theorem dM_read_3 : decode cM_read 3 = .ok (.invokevirtual 40, 3) := by decide +kernel
theorem dM_read_6 : decode cM_read 6 = .ok (.aload_n 0, 1) := by decide +kernel
theorem dM_read_7 : decode cM_read 7 = .ok (.getfield 7, 3) := by decide +kernel
theorem dM_read_10 : decode cM_read 10 = .ok (.iload_n 1, 1) := by decide +kernel
theorem dM_read_11 : decode cM_read 11 = .ok (.sipush 4095, 3) := by decide +kernel
theorem dM_read_14 : decode cM_read 14 = .ok (.iand, 1) := by decide +kernel
theorem dM_read_15 : decode cM_read 15 = .ok (.iaload, 1) := by decide +kernel
theorem dM_read_16 : decode cM_read 16 = .ok (.ireturn, 1) := by decide +kernel
theorem dM_write_0 : decode cM_write 0 = .ok (.aload_n 0, 1) := by decide +kernel
theorem dM_write_1 : decode cM_write 1 = .ok (.iload_n 1, 1) := by decide +kernel
theorem dM_write_2 : decode cM_write 2 = .ok (.iconst 3, 1) := by decide +kernel
theorem dM_write_3 : decode cM_write 3 = .ok (.invokevirtual 40, 3) := by decide +kernel
theorem dM_write_6 : decode cM_write 6 = .ok (.iload_n 1, 1) := by decide +kernel
theorem dM_write_7 : decode cM_write 7 = .ok (.sipush 4095, 3) := by decide +kernel
theorem dM_write_10 : decode cM_write 10 = .ok (.iand, 1) := by decide +kernel
theorem dM_write_11 : decode cM_write 11 = .ok (.sipush 1024, 3) := by decide +kernel
theorem dM_write_14 : decode cM_write 14 = .ok (.if_icmp .lt 18, 3) := by decide +kernel
theorem dM_write_17 : decode cM_write 17 = .ok (.aload_n 0, 1) := by decide +kernel
theorem dM_write_18 : decode cM_write 18 = .ok (.getfield 7, 3) := by decide +kernel
theorem dM_write_21 : decode cM_write 21 = .ok (.iload_n 1, 1) := by decide +kernel
theorem dM_write_22 : decode cM_write 22 = .ok (.sipush 4095, 3) := by decide +kernel
theorem dM_write_25 : decode cM_write 25 = .ok (.iand, 1) := by decide +kernel
theorem dM_write_26 : decode cM_write 26 = .ok (.iload_n 2, 1) := by decide +kernel
theorem dM_write_27 : decode cM_write 27 = .ok (.sipush 255, 3) := by decide +kernel
theorem dM_write_30 : decode cM_write 30 = .ok (.iand, 1) := by decide +kernel
theorem dM_write_31 : decode cM_write 31 = .ok (.iastore, 1) := by decide +kernel
theorem dM_write_32 : decode cM_write 32 = .ok (.return_, 1) := by decide +kernel
theorem dM_refresh_0 : decode cM_refresh 0 = .ok (.aload_n 0, 1) := by decide +kernel
theorem dM_refresh_1 : decode cM_refresh 1 = .ok (.getfield 13, 3) := by decide +kernel
theorem dM_refresh_4 : decode cM_refresh 4 = .ok (.bipush 17, 2) := by decide +kernel
theorem dM_refresh_6 : decode cM_refresh 6 = .ok (.aload_n 0, 1) := by decide +kernel
theorem dM_refresh_7 : decode cM_refresh 7 = .ok (.getfield 13, 3) := by decide +kernel
theorem dM_refresh_10 : decode cM_refresh 10 = .ok (.bipush 17, 2) := by decide +kernel
theorem dM_refresh_12 : decode cM_refresh 12 = .ok (.iaload, 1) := by decide +kernel
theorem dM_refresh_13 : decode cM_refresh 13 = .ok (.sipush 128, 3) := by decide +kernel
theorem dM_refresh_16 : decode cM_refresh 16 = .ok (.iand, 1) := by decide +kernel
theorem dM_refresh_17 : decode cM_refresh 17 = .ok (.aload_n 0, 1) := by decide +kernel
theorem dM_refresh_18 : decode cM_refresh 18 = .ok (.getfield 13, 3) := by decide +kernel
theorem dM_refresh_21 : decode cM_refresh 21 = .ok (.bipush 17, 2) := by decide +kernel
theorem dM_refresh_23 : decode cM_refresh 23 = .ok (.iaload, 1) := by decide +kernel
theorem dM_refresh_24 : decode cM_refresh 24 = .ok (.iconst 1, 1) := by decide +kernel
theorem dM_refresh_25 : decode cM_refresh 25 = .ok (.iadd, 1) := by decide +kernel
theorem dM_refresh_26 : decode cM_refresh 26 = .ok (.bipush 127, 2) := by decide +kernel
theorem dM_refresh_28 : decode cM_refresh 28 = .ok (.iand, 1) := by decide +kernel
theorem dM_refresh_29 : decode cM_refresh 29 = .ok (.ior, 1) := by decide +kernel
theorem dM_refresh_30 : decode cM_refresh 30 = .ok (.iastore, 1) := by decide +kernel
theorem dM_refresh_31 : decode cM_refresh 31 = .ok (.return_, 1) := by decide +kernel
theorem dM_fetch_0 : decode cM_fetch 0 = .ok (.aload_n 0, 1) := by decide +kernel
theorem dM_fetch_1 : decode cM_fetch 1 = .ok (.getfield 7, 3) := by decide +kernel
theorem dM_fetch_4 : decode cM_fetch 4 = .ok (.aload_n 0, 1) := by decide +kernel
theorem dM_fetch_5 : decode cM_fetch 5 = .ok (.getfield 13, 3) := by decide +kernel
theorem dM_fetch_8 : decode cM_fetch 8 = .ok (.bipush 21, 2) := by decide +kernel
theorem dM_fetch_10 : decode cM_fetch 10 = .ok (.iaload, 1) := by decide +kernel
theorem dM_fetch_11 : decode cM_fetch 11 = .ok (.sipush 4095, 3) := by decide +kernel
theorem dM_fetch_14 : decode cM_fetch 14 = .ok (.iand, 1) := by decide +kernel
theorem dM_fetch_15 : decode cM_fetch 15 = .ok (.iaload, 1) := by decide +kernel
theorem dM_fetch_16 : decode cM_fetch 16 = .ok (.istore_n 1, 1) := by decide +kernel
theorem dM_fetch_17 : decode cM_fetch 17 = .ok (.aload_n 0, 1) := by decide +kernel
theorem dM_fetch_18 : decode cM_fetch 18 = .ok (.aload_n 0, 1) := by decide +kernel
theorem dM_fetch_19 : decode cM_fetch 19 = .ok (.getfield 13, 3) := by decide +kernel
theorem dM_fetch_22 : decode cM_fetch 22 = .ok (.bipush 21, 2) := by decide +kernel
theorem dM_fetch_24 : decode cM_fetch 24 = .ok (.iaload, 1) := by decide +kernel
theorem dM_fetch_25 : decode cM_fetch 25 = .ok (.iconst 4, 1) := by decide +kernel
theorem dM_fetch_26 : decode cM_fetch 26 = .ok (.invokevirtual 40, 3) := by decide +kernel
theorem dM_fetch_29 : decode cM_fetch 29 = .ok (.aload_n 0, 1) := by decide +kernel
theorem dM_fetch_30 : decode cM_fetch 30 = .ok (.getfield 13, 3) := by decide +kernel
theorem dM_fetch_33 : decode cM_fetch 33 = .ok (.bipush 21, 2) := by decide +kernel
theorem dM_fetch_35 : decode cM_fetch 35 = .ok (.aload_n 0, 1) := by decide +kernel
theorem dM_fetch_36 : decode cM_fetch 36 = .ok (.getfield 13, 3) := by decide +kernel
theorem dM_fetch_39 : decode cM_fetch 39 = .ok (.bipush 21, 2) := by decide +kernel
theorem dM_fetch_41 : decode cM_fetch 41 = .ok (.iaload, 1) := by decide +kernel
theorem dM_fetch_42 : decode cM_fetch 42 = .ok (.iconst 1, 1) := by decide +kernel
theorem dM_fetch_43 : decode cM_fetch 43 = .ok (.iadd, 1) := by decide +kernel
theorem dM_fetch_44 : decode cM_fetch 44 = .ok (.ldc 44, 2) := by decide +kernel
theorem dM_fetch_46 : decode cM_fetch 46 = .ok (.iand, 1) := by decide +kernel
theorem dM_fetch_47 : decode cM_fetch 47 = .ok (.iastore, 1) := by decide +kernel
theorem dM_fetch_48 : decode cM_fetch 48 = .ok (.aload_n 0, 1) := by decide +kernel
theorem dM_fetch_49 : decode cM_fetch 49 = .ok (.invokevirtual 45, 3) := by decide +kernel
theorem dM_fetch_52 : decode cM_fetch 52 = .ok (.iload_n 1, 1) := by decide +kernel
theorem dM_fetch_53 : decode cM_fetch 53 = .ok (.ireturn, 1) := by decide +kernel
theorem dM_next_0 : decode cM_next 0 = .ok (.aload_n 0, 1) := by decide +kernel
theorem dM_next_1 : decode cM_next 1 = .ok (.aload_n 0, 1) := by decide +kernel
theorem dM_next_2 : decode cM_next 2 = .ok (.getfield 13, 3) := by decide +kernel
theorem dM_next_5 : decode cM_next 5 = .ok (.bipush 21, 2) := by decide +kernel
theorem dM_next_7 : decode cM_next 7 = .ok (.iaload, 1) := by decide +kernel
theorem dM_next_8 : decode cM_next 8 = .ok (.invokevirtual 48, 3) := by decide +kernel
theorem dM_next_11 : decode cM_next 11 = .ok (.istore_n 1, 1) := by decide +kernel
theorem dM_next_12 : decode cM_next 12 = .ok (.aload_n 0, 1) := by decide +kernel
theorem dM_next_13 : decode cM_next 13 = .ok (.getfield 13, 3) := by decide +kernel
theorem dM_next_16 : decode cM_next 16 = .ok (.bipush 21, 2) := by decide +kernel
theorem dM_next_18 : decode cM_next 18 = .ok (.aload_n 0, 1) := by decide +kernel
theorem dM_next_19 : decode cM_next 19 = .ok (.getfield 13, 3) := by decide +kernel
theorem dM_next_22 : decode cM_next 22 = .ok (.bipush 21, 2) := by decide +kernel
theorem dM_next_24 : decode cM_next 24 = .ok (.iaload, 1) := by decide +kernel
theorem dM_next_25 : decode cM_next 25 = .ok (.iconst 1, 1) := by decide +kernel
theorem dM_next_26 : decode cM_next 26 = .ok (.iadd, 1) := by decide +kernel
theorem dM_next_27 : decode cM_next 27 = .ok (.ldc 44, 2) := by decide +kernel
theorem dM_next_29 : decode cM_next 29 = .ok (.iand, 1) := by decide +kernel
theorem dM_next_30 : decode cM_next 30 = .ok (.iastore, 1) := by decide +kernel
theorem dM_next_31 : decode cM_next 31 = .ok (.iload_n 1, 1) := by decide +kernel
theorem dM_next_32 : decode cM_next 32 = .ok (.ireturn, 1) := by decide +kernel
theorem dM_signed_0 : decode cM_signed 0 = .ok (.iload_n 0, 1) := by decide +kernel
theorem dM_signed_1 : decode cM_signed 1 = .ok (.bipush 127, 2) := by decide +kernel
theorem dM_signed_3 : decode cM_signed 3 = .ok (.if_icmp .le 11, 3) := by decide +kernel
theorem dM_signed_6 : decode cM_signed 6 = .ok (.iload_n 0, 1) := by decide +kernel
theorem dM_signed_7 : decode cM_signed 7 = .ok (.sipush 256, 3) := by decide +kernel
theorem dM_signed_10 : decode cM_signed 10 = .ok (.isub, 1) := by decide +kernel
theorem dM_signed_11 : decode cM_signed 11 = .ok (.goto 4, 3) := by decide +kernel
theorem dM_signed_14 : decode cM_signed 14 = .ok (.iload_n 0, 1) := by decide +kernel
theorem dM_signed_15 : decode cM_signed 15 = .ok (.ireturn, 1) := by decide +kernel
theorem dM_twoNext_0 : decode cM_twoNext 0 = .ok (.aload_n 0, 1) := by decide +kernel
theorem dM_twoNext_1 : decode cM_twoNext 1 = .ok (.invokevirtual 52, 3) := by decide +kernel
theorem dM_twoNext_4 : decode cM_twoNext 4 = .ok (.istore_n 1, 1) := by decide +kernel
theorem dM_twoNext_5 : decode cM_twoNext 5 = .ok (.aload_n 0, 1) := by decide +kernel
theorem dM_twoNext_6 : decode cM_twoNext 6 = .ok (.invokevirtual 52, 3) := by decide +kernel
theorem dM_twoNext_9 : decode cM_twoNext 9 = .ok (.istore_n 2, 1) := by decide +kernel
theorem dM_twoNext_10 : decode cM_twoNext 10 = .ok (.sipush 256, 3) := by decide +kernel
theorem dM_twoNext_13 : decode cM_twoNext 13 = .ok (.iload_n 2, 1) := by decide +kernel
theorem dM_twoNext_14 : decode cM_twoNext 14 = .ok (.imul, 1) := by decide +kernel
theorem dM_twoNext_15 : decode cM_twoNext 15 = .ok (.iload_n 1, 1) := by decide +kernel
theorem dM_twoNext_16 : decode cM_twoNext 16 = .ok (.iadd, 1) := by decide +kernel
theorem dM_twoNext_17 : decode cM_twoNext 17 = .ok (.ireturn, 1) := by decide +kernel
theorem dM_two_0 : decode cM_two 0 = .ok (.aload_n 0, 1) := by decide +kernel
theorem dM_two_1 : decode cM_two 1 = .ok (.iload_n 1, 1) := by decide +kernel
theorem dM_two_2 : decode cM_two 2 = .ok (.invokevirtual 48, 3) := by decide +kernel
theorem dM_two_5 : decode cM_two 5 = .ok (.istore_n 2, 1) := by decide +kernel
theorem dM_two_6 : decode cM_two 6 = .ok (.aload_n 0, 1) := by decide +kernel
theorem dM_two_7 : decode cM_two 7 = .ok (.iload_n 1, 1) := by decide +kernel
theorem dM_two_8 : decode cM_two 8 = .ok (.iconst 1, 1) := by decide +kernel
theorem dM_two_9 : decode cM_two 9 = .ok (.iadd, 1) := by decide +kernel
theorem dM_two_10 : decode cM_two 10 = .ok (.invokevirtual 48, 3) := by decide +kernel
theorem dM_two_13 : decode cM_two 13 = .ok (.istore_n 3, 1) := by decide +kernel
theorem dM_two_14 : decode cM_two 14 = .ok (.sipush 256, 3) := by decide +kernel
theorem dM_two_17 : decode cM_two 17 = .ok (.iload_n 3, 1) := by decide +kernel
theorem dM_two_18 : decode cM_two 18 = .ok (.imul, 1) := by decide +kernel
theorem dM_two_19 : decode cM_two 19 = .ok (.iload_n 2, 1) := by decide +kernel
theorem dM_two_20 : decode cM_two 20 = .ok (.iadd, 1) := by decide +kernel
theorem dM_two_21 : decode cM_two 21 = .ok (.ireturn, 1) := by decide +kernel
theorem dM_setTwo_0 : decode cM_setTwo 0 = .ok (.aload_n 0, 1) := by decide +kernel
theorem dM_setTwo_1 : decode cM_setTwo 1 = .ok (.iload_n 1, 1) := by decide +kernel
theorem dM_setTwo_2 : decode cM_setTwo 2 = .ok (.iload_n 2, 1) := by decide +kernel
theorem dM_setTwo_3 : decode cM_setTwo 3 = .ok (.invokevirtual 56, 3) := by decide +kernel
theorem dM_setTwo_6 : decode cM_setTwo 6 = .ok (.aload_n 0, 1) := by decide +kernel
theorem dM_setTwo_7 : decode cM_setTwo 7 = .ok (.iload_n 1, 1) := by decide +kernel
theorem dM_setTwo_8 : decode cM_setTwo 8 = .ok (.iconst 1, 1) := by decide +kernel
theorem dM_setTwo_9 : decode cM_setTwo 9 = .ok (.iadd, 1) := by decide +kernel
theorem dM_setTwo_10 : decode cM_setTwo 10 = .ok (.iload_n 2, 1) := by decide +kernel
theorem dM_setTwo_11 : decode cM_setTwo 11 = .ok (.bipush 8, 2) := by decide +kernel
theorem dM_setTwo_13 : decode cM_setTwo 13 = .ok (.ishr, 1) := by decide +kernel
theorem dM_setTwo_14 : decode cM_setTwo 14 = .ok (.invokevirtual 56, 3) := by decide +kernel
theorem dM_setTwo_17 : decode cM_setTwo 17 = .ok (.return_, 1) := by decide +kernel
theorem dM_pair_0 : decode cM_pair 0 = .ok (.sipush 256, 3) := by decide +kernel
theorem dM_pair_3 : decode cM_pair 3 = .ok (.aload_n 0, 1) := by decide +kernel
theorem dM_pair_4 : decode cM_pair 4 = .ok (.getfield 13, 3) := by decide +kernel
theorem dM_pair_7 : decode cM_pair 7 = .ok (.iload_n 1, 1) := by decide +kernel
theorem dM_pair_8 : decode cM_pair 8 = .ok (.iaload, 1) := by decide +kernel
theorem dM_pair_9 : decode cM_pair 9 = .ok (.imul, 1) := by decide +kernel
theorem dM_pair_10 : decode cM_pair 10 = .ok (.aload_n 0, 1) := by decide +kernel
theorem dM_pair_11 : decode cM_pair 11 = .ok (.getfield 13, 3) := by decide +kernel
theorem dM_pair_14 : decode cM_pair 14 = .ok (.iload_n 1, 1) := by decide +kernel
theorem dM_pair_15 : decode cM_pair 15 = .ok (.iconst 1, 1) := by decide +kernel
theorem dM_pair_16 : decode cM_pair 16 = .ok (.iadd, 1) := by decide +kernel
theorem dM_pair_17 : decode cM_pair 17 = .ok (.iaload, 1) := by decide +kernel
theorem dM_pair_18 : decode cM_pair 18 = .ok (.iadd, 1) := by decide +kernel
theorem dM_pair_19 : decode cM_pair 19 = .ok (.ireturn, 1) := by decide +kernel
theorem dM_setPair_0 : decode cM_setPair 0 = .ok (.aload_n 0, 1) := by decide +kernel
theorem dM_setPair_1 : decode cM_setPair 1 = .ok (.getfield 13, 3) := by decide +kernel
theorem dM_setPair_4 : decode cM_setPair 4 = .ok (.iload_n 1, 1) := by decide +kernel
theorem dM_setPair_5 : decode cM_setPair 5 = .ok (.iload_n 2, 1) := by decide +kernel
theorem dM_setPair_6 : decode cM_setPair 6 = .ok (.bipush 8, 2) := by decide +kernel
theorem dM_setPair_8 : decode cM_setPair 8 = .ok (.ishr, 1) := by decide +kernel
theorem dM_setPair_9 : decode cM_setPair 9 = .ok (.sipush 255, 3) := by decide +kernel
theorem dM_setPair_12 : decode cM_setPair 12 = .ok (.iand, 1) := by decide +kernel
theorem dM_setPair_13 : decode cM_setPair 13 = .ok (.iastore, 1) := by decide +kernel
theorem dM_setPair_14 : decode cM_setPair 14 = .ok (.aload_n 0, 1) := by decide +kernel
theorem dM_setPair_15 : decode cM_setPair 15 = .ok (.getfield 13, 3) := by decide +kernel
theorem dM_setPair_18 : decode cM_setPair 18 = .ok (.iload_n 1, 1) := by decide +kernel
theorem dM_setPair_19 : decode cM_setPair 19 = .ok (.iconst 1, 1) := by decide +kernel
theorem dM_setPair_20 : decode cM_setPair 20 = .ok (.iadd, 1) := by decide +kernel
theorem dM_setPair_21 : decode cM_setPair 21 = .ok (.iload_n 2, 1) := by decide +kernel
theorem dM_setPair_22 : decode cM_setPair 22 = .ok (.sipush 255, 3) := by decide +kernel
theorem dM_setPair_25 : decode cM_setPair 25 = .ok (.iand, 1) := by decide +kernel
theorem dM_setPair_26 : decode cM_setPair 26 = .ok (.iastore, 1) := by decide +kernel
theorem dM_setPair_27 : decode cM_setPair 27 = .ok (.return_, 1) := by decide +kernel
theorem dM_main_0 : decode cM_main 0 = .ok (.aload_n 0, 1) := by decide +kernel
theorem dM_main_1 : decode cM_main 1 = .ok (.getfield 59, 3) := by decide +kernel
theorem dM_main_4 : decode cM_main 4 = .ok (.ifCond .ne 12, 3) := by decide +kernel
theorem dM_main_7 : decode cM_main 7 = .ok (.aload_n 0, 1) := by decide +kernel
theorem dM_main_8 : decode cM_main 8 = .ok (.bipush 6, 2) := by decide +kernel
theorem dM_main_10 : decode cM_main 10 = .ok (.invokevirtual 62, 3) := by decide +kernel
theorem dM_main_13 : decode cM_main 13 = .ok (.goto 12, 3) := by decide +kernel
theorem dM_main_16 : decode cM_main 16 = .ok (.aload_n 0, 1) := by decide +kernel
theorem dM_main_17 : decode cM_main 17 = .ok (.getfield 13, 3) := by decide +kernel
theorem dM_main_20 : decode cM_main 20 = .ok (.aload_n 0, 1) := by decide +kernel
theorem dM_main_21 : decode cM_main 21 = .ok (.getfield 59, 3) := by decide +kernel
theorem dM_main_24 : decode cM_main 24 = .ok (.iaload, 1) := by decide +kernel
theorem dM_main_25 : decode cM_main 25 = .ok (.ireturn, 1) := by decide +kernel
theorem dM_setMain_0 : decode cM_setMain 0 = .ok (.aload_n 0, 1) := by decide +kernel
theorem dM_setMain_1 : decode cM_setMain 1 = .ok (.getfield 59, 3) := by decide +kernel
theorem dM_setMain_4 : decode cM_setMain 4 = .ok (.ifCond .ne 13, 3) := by decide +kernel
theorem dM_setMain_7 : decode cM_setMain 7 = .ok (.aload_n 0, 1) := by decide +kernel
theorem dM_setMain_8 : decode cM_setMain 8 = .ok (.bipush 6, 2) := by decide +kernel
theorem dM_setMain_10 : decode cM_setMain 10 = .ok (.iload_n 1, 1) := by decide +kernel
theorem dM_setMain_11 : decode cM_setMain 11 = .ok (.invokevirtual 65, 3) := by decide +kernel
theorem dM_setMain_14 : decode cM_setMain 14 = .ok (.goto 16, 3) := by decide +kernel
theorem dM_setMain_17 : decode cM_setMain 17 = .ok (.aload_n 0, 1) := by decide +kernel
theorem dM_setMain_18 : decode cM_setMain 18 = .ok (.getfield 13, 3) := by decide +kernel
theorem dM_setMain_21 : decode cM_setMain 21 = .ok (.aload_n 0, 1) := by decide +kernel
theorem dM_setMain_22 : decode cM_setMain 22 = .ok (.getfield 59, 3) := by decide +kernel
theorem dM_setMain_25 : decode cM_setMain 25 = .ok (.iload_n 1, 1) := by decide +kernel
theorem dM_setMain_26 : decode cM_setMain 26 = .ok (.ldc 44, 2) := by decide +kernel
theorem dM_setMain_28 : decode cM_setMain 28 = .ok (.iand, 1) := by decide +kernel
theorem dM_setMain_29 : decode cM_setMain 29 = .ok (.iastore, 1) := by decide +kernel
theorem dM_setMain_30 : decode cM_setMain 30 = .ok (.return_, 1) := by decide +kernel
theorem dM_w_0 : decode cM_w 0 = .ok (.iload_n 1, 1) := by decide +kernel
theorem dM_w_1 : decode cM_w 1 = .ok (.iconst 3, 1) := by decide +kernel
theorem dM_w_2 : decode cM_w 2 = .ok (.if_icmp .ne 13, 3) := by decide +kernel
theorem dM_w_5 : decode cM_w 5 = .ok (.aload_n 0, 1) := by decide +kernel
theorem dM_w_6 : decode cM_w 6 = .ok (.getfield 13, 3) := by decide +kernel
theorem dM_w_9 : decode cM_w 9 = .ok (.bipush 20, 2) := by decide +kernel
theorem dM_w_11 : decode cM_w 11 = .ok (.iaload, 1) := by decide +kernel
theorem dM_w_12 : decode cM_w 12 = .ok (.goto 24, 3) := by decide +kernel
theorem dM_w_15 : decode cM_w 15 = .ok (.iload_n 1, 1) := by decide +kernel
theorem dM_w_16 : decode cM_w 16 = .ok (.iconst 2, 1) := by decide +kernel
theorem dM_w_17 : decode cM_w 17 = .ok (.if_icmp .ne 10, 3) := by decide +kernel
theorem dM_w_20 : decode cM_w 20 = .ok (.aload_n 0, 1) := by decide +kernel
theorem dM_w_21 : decode cM_w 21 = .ok (.invokevirtual 68, 3) := by decide +kernel
theorem dM_w_24 : decode cM_w 24 = .ok (.goto 12, 3) := by decide +kernel
theorem dM_w_27 : decode cM_w 27 = .ok (.aload_n 0, 1) := by decide +kernel
theorem dM_w_28 : decode cM_w 28 = .ok (.iconst 2, 1) := by decide +kernel
theorem dM_w_29 : decode cM_w 29 = .ok (.iconst 2, 1) := by decide +kernel
theorem dM_w_30 : decode cM_w 30 = .ok (.iload_n 1, 1) := by decide +kernel
theorem dM_w_31 : decode cM_w 31 = .ok (.imul, 1) := by decide +kernel
theorem dM_w_32 : decode cM_w 32 = .ok (.iadd, 1) := by decide +kernel
theorem dM_w_33 : decode cM_w 33 = .ok (.invokevirtual 62, 3) := by decide +kernel
theorem dM_w_36 : decode cM_w 36 = .ok (.ireturn, 1) := by decide +kernel
theorem dM_setW_0 : decode cM_setW 0 = .ok (.iload_n 1, 1) := by decide +kernel
theorem dM_setW_1 : decode cM_setW 1 = .ok (.iconst 3, 1) := by decide +kernel
theorem dM_setW_2 : decode cM_setW 2 = .ok (.if_icmp .ne 17, 3) := by decide +kernel
theorem dM_setW_5 : decode cM_setW 5 = .ok (.aload_n 0, 1) := by decide +kernel
theorem dM_setW_6 : decode cM_setW 6 = .ok (.getfield 13, 3) := by decide +kernel
theorem dM_setW_9 : decode cM_setW 9 = .ok (.bipush 20, 2) := by decide +kernel
theorem dM_setW_11 : decode cM_setW 11 = .ok (.iload_n 2, 1) := by decide +kernel
theorem dM_setW_12 : decode cM_setW 12 = .ok (.ldc 44, 2) := by decide +kernel
theorem dM_setW_14 : decode cM_setW 14 = .ok (.iand, 1) := by decide +kernel
theorem dM_setW_15 : decode cM_setW 15 = .ok (.iastore, 1) := by decide +kernel
theorem dM_setW_16 : decode cM_setW 16 = .ok (.goto 26, 3) := by decide +kernel
theorem dM_setW_19 : decode cM_setW 19 = .ok (.iload_n 1, 1) := by decide +kernel
theorem dM_setW_20 : decode cM_setW 20 = .ok (.iconst 2, 1) := by decide +kernel
theorem dM_setW_21 : decode cM_setW 21 = .ok (.if_icmp .ne 11, 3) := by decide +kernel
theorem dM_setW_24 : decode cM_setW 24 = .ok (.aload_n 0, 1) := by decide +kernel
theorem dM_setW_25 : decode cM_setW 25 = .ok (.iload_n 2, 1) := by decide +kernel
theorem dM_setW_26 : decode cM_setW 26 = .ok (.invokevirtual 71, 3) := by decide +kernel
theorem dM_setW_29 : decode cM_setW 29 = .ok (.goto 13, 3) := by decide +kernel
theorem dM_setW_32 : decode cM_setW 32 = .ok (.aload_n 0, 1) := by decide +kernel
theorem dM_setW_33 : decode cM_setW 33 = .ok (.iconst 2, 1) := by decide +kernel
theorem dM_setW_34 : decode cM_setW 34 = .ok (.iconst 2, 1) := by decide +kernel
theorem dM_setW_35 : decode cM_setW 35 = .ok (.iload_n 1, 1) := by decide +kernel
theorem dM_setW_36 : decode cM_setW 36 = .ok (.imul, 1) := by decide +kernel
theorem dM_setW_37 : decode cM_setW 37 = .ok (.iadd, 1) := by decide +kernel
theorem dM_setW_38 : decode cM_setW 38 = .ok (.iload_n 2, 1) := by decide +kernel
theorem dM_setW_39 : decode cM_setW 39 = .ok (.invokevirtual 65, 3) := by decide +kernel
theorem dM_setW_42 : decode cM_setW 42 = .ok (.return_, 1) := by decide +kernel
theorem dM_aim_0 : decode cM_aim 0 = .ok (.aload_n 0, 1) := by decide +kernel
theorem dM_aim_1 : decode cM_aim 1 = .ok (.getfield 59, 3) := by decide +kernel
theorem dM_aim_4 : decode cM_aim 4 = .ok (.ifCond .ne 7, 3) := by decide +kernel
theorem dM_aim_7 : decode cM_aim 7 = .ok (.iconst 0, 1) := by decide +kernel
theorem dM_aim_8 : decode cM_aim 8 = .ok (.goto 10, 3) := by decide +kernel
theorem dM_aim_11 : decode cM_aim 11 = .ok (.aload_n 0, 1) := by decide +kernel
theorem dM_aim_12 : decode cM_aim 12 = .ok (.invokevirtual 52, 3) := by decide +kernel
theorem dM_aim_15 : decode cM_aim 15 = .ok (.invokestatic 74, 3) := by decide +kernel
theorem dM_aim_18 : decode cM_aim 18 = .ok (.istore_n 1, 1) := by decide +kernel
theorem dM_aim_19 : decode cM_aim 19 = .ok (.aload_n 0, 1) := by decide +kernel
theorem dM_aim_20 : decode cM_aim 20 = .ok (.aload_n 0, 1) := by decide +kernel
theorem dM_aim_21 : decode cM_aim 21 = .ok (.invokevirtual 68, 3) := by decide +kernel
theorem dM_aim_24 : decode cM_aim 24 = .ok (.iload_n 1, 1) := by decide +kernel
theorem dM_aim_25 : decode cM_aim 25 = .ok (.iadd, 1) := by decide +kernel
theorem dM_aim_26 : decode cM_aim 26 = .ok (.ldc 44, 2) := by decide +kernel
theorem dM_aim_28 : decode cM_aim 28 = .ok (.iand, 1) := by decide +kernel
theorem dM_aim_29 : decode cM_aim 29 = .ok (.putfield 77, 3) := by decide +kernel
theorem dM_aim_32 : decode cM_aim 32 = .ok (.aload_n 0, 1) := by decide +kernel
theorem dM_aim_33 : decode cM_aim 33 = .ok (.iconst 1, 1) := by decide +kernel
theorem dM_aim_34 : decode cM_aim 34 = .ok (.putfield 80, 3) := by decide +kernel
theorem dM_aim_37 : decode cM_aim 37 = .ok (.return_, 1) := by decide +kernel
theorem dM_get_0 : decode cM_get 0 = .ok (.iload_n 1, 1) := by decide +kernel
theorem dM_get_1 : decode cM_get 1 = .ok (.bipush 6, 2) := by decide +kernel
theorem dM_get_3 : decode cM_get 3 = .ok (.if_icmp .ne 12, 3) := by decide +kernel
theorem dM_get_6 : decode cM_get 6 = .ok (.aload_n 0, 1) := by decide +kernel
theorem dM_get_7 : decode cM_get 7 = .ok (.aload_n 0, 1) := by decide +kernel
theorem dM_get_8 : decode cM_get 8 = .ok (.getfield 77, 3) := by decide +kernel
theorem dM_get_11 : decode cM_get 11 = .ok (.invokevirtual 48, 3) := by decide +kernel
theorem dM_get_14 : decode cM_get 14 = .ok (.ireturn, 1) := by decide +kernel
theorem dM_get_15 : decode cM_get 15 = .ok (.iload_n 1, 1) := by decide +kernel
theorem dM_get_16 : decode cM_get 16 = .ok (.iconst 4, 1) := by decide +kernel
theorem dM_get_17 : decode cM_get 17 = .ok (.if_icmp .eq 8, 3) := by decide +kernel
theorem dM_get_20 : decode cM_get 20 = .ok (.iload_n 1, 1) := by decide +kernel
theorem dM_get_21 : decode cM_get 21 = .ok (.iconst 5, 1) := by decide +kernel
theorem dM_get_22 : decode cM_get 22 = .ok (.if_icmp .ne 51, 3) := by decide +kernel
theorem dM_get_25 : decode cM_get 25 = .ok (.aload_n 0, 1) := by decide +kernel
theorem dM_get_26 : decode cM_get 26 = .ok (.getfield 59, 3) := by decide +kernel
theorem dM_get_29 : decode cM_get 29 = .ok (.ifCond .eq 44, 3) := by decide +kernel
theorem dM_get_32 : decode cM_get 32 = .ok (.aload_n 0, 1) := by decide +kernel
theorem dM_get_33 : decode cM_get 33 = .ok (.getfield 80, 3) := by decide +kernel
theorem dM_get_36 : decode cM_get 36 = .ok (.ifCond .ne 37, 3) := by decide +kernel
theorem dM_get_39 : decode cM_get 39 = .ok (.iload_n 1, 1) := by decide +kernel
theorem dM_get_40 : decode cM_get 40 = .ok (.iconst 4, 1) := by decide +kernel
theorem dM_get_41 : decode cM_get 41 = .ok (.if_icmp .ne 18, 3) := by decide +kernel
theorem dM_get_44 : decode cM_get 44 = .ok (.aload_n 0, 1) := by decide +kernel
theorem dM_get_45 : decode cM_get 45 = .ok (.getfield 13, 3) := by decide +kernel
theorem dM_get_48 : decode cM_get 48 = .ok (.aload_n 0, 1) := by decide +kernel
theorem dM_get_49 : decode cM_get 49 = .ok (.getfield 59, 3) := by decide +kernel
theorem dM_get_52 : decode cM_get 52 = .ok (.iaload, 1) := by decide +kernel
theorem dM_get_53 : decode cM_get 53 = .ok (.bipush 8, 2) := by decide +kernel
theorem dM_get_55 : decode cM_get 55 = .ok (.ishr, 1) := by decide +kernel
theorem dM_get_56 : decode cM_get 56 = .ok (.goto 16, 3) := by decide +kernel
theorem dM_get_59 : decode cM_get 59 = .ok (.aload_n 0, 1) := by decide +kernel
theorem dM_get_60 : decode cM_get 60 = .ok (.getfield 13, 3) := by decide +kernel
theorem dM_get_63 : decode cM_get 63 = .ok (.aload_n 0, 1) := by decide +kernel
theorem dM_get_64 : decode cM_get 64 = .ok (.getfield 59, 3) := by decide +kernel
theorem dM_get_67 : decode cM_get 67 = .ok (.iaload, 1) := by decide +kernel
theorem dM_get_68 : decode cM_get 68 = .ok (.sipush 255, 3) := by decide +kernel
theorem dM_get_71 : decode cM_get 71 = .ok (.iand, 1) := by decide +kernel
theorem dM_get_72 : decode cM_get 72 = .ok (.ireturn, 1) := by decide +kernel
theorem dM_get_73 : decode cM_get 73 = .ok (.aload_n 0, 1) := by decide +kernel
theorem dM_get_74 : decode cM_get 74 = .ok (.getfield 13, 3) := by decide +kernel
theorem dM_get_77 : decode cM_get 77 = .ok (.iload_n 1, 1) := by decide +kernel
theorem dM_get_78 : decode cM_get 78 = .ok (.bipush 7, 2) := by decide +kernel
theorem dM_get_80 : decode cM_get 80 = .ok (.if_icmp .ne 7, 3) := by decide +kernel
theorem dM_get_83 : decode cM_get 83 = .ok (.iconst 0, 1) := by decide +kernel
theorem dM_get_84 : decode cM_get 84 = .ok (.goto 6, 3) := by decide +kernel
theorem dM_get_87 : decode cM_get 87 = .ok (.iload_n 1, 1) := by decide +kernel
theorem dM_get_88 : decode cM_get 88 = .ok (.iconst 2, 1) := by decide +kernel
theorem dM_get_89 : decode cM_get 89 = .ok (.iadd, 1) := by decide +kernel
theorem dM_get_90 : decode cM_get 90 = .ok (.iaload, 1) := by decide +kernel
theorem dM_get_91 : decode cM_get 91 = .ok (.ireturn, 1) := by decide +kernel
theorem dM_put_0 : decode cM_put 0 = .ok (.iload_n 1, 1) := by decide +kernel
theorem dM_put_1 : decode cM_put 1 = .ok (.bipush 6, 2) := by decide +kernel
theorem dM_put_3 : decode cM_put 3 = .ok (.if_icmp .ne 15, 3) := by decide +kernel
theorem dM_put_6 : decode cM_put 6 = .ok (.aload_n 0, 1) := by decide +kernel
theorem dM_put_7 : decode cM_put 7 = .ok (.aload_n 0, 1) := by decide +kernel
theorem dM_put_8 : decode cM_put 8 = .ok (.getfield 77, 3) := by decide +kernel
theorem dM_put_11 : decode cM_put 11 = .ok (.iload_n 2, 1) := by decide +kernel
theorem dM_put_12 : decode cM_put 12 = .ok (.invokevirtual 56, 3) := by decide +kernel
theorem dM_put_15 : decode cM_put 15 = .ok (.goto 99, 3) := by decide +kernel
theorem dM_put_18 : decode cM_put 18 = .ok (.iload_n 1, 1) := by decide +kernel
theorem dM_put_19 : decode cM_put 19 = .ok (.iconst 4, 1) := by decide +kernel
theorem dM_put_20 : decode cM_put 20 = .ok (.if_icmp .eq 8, 3) := by decide +kernel
theorem dM_put_23 : decode cM_put 23 = .ok (.iload_n 1, 1) := by decide +kernel
theorem dM_put_24 : decode cM_put 24 = .ok (.iconst 5, 1) := by decide +kernel
theorem dM_put_25 : decode cM_put 25 = .ok (.if_icmp .ne 70, 3) := by decide +kernel
theorem dM_put_28 : decode cM_put 28 = .ok (.aload_n 0, 1) := by decide +kernel
theorem dM_put_29 : decode cM_put 29 = .ok (.getfield 59, 3) := by decide +kernel
theorem dM_put_32 : decode cM_put 32 = .ok (.ifCond .eq 63, 3) := by decide +kernel
theorem dM_put_35 : decode cM_put 35 = .ok (.aload_n 0, 1) := by decide +kernel
theorem dM_put_36 : decode cM_put 36 = .ok (.getfield 80, 3) := by decide +kernel
theorem dM_put_39 : decode cM_put 39 = .ok (.ifCond .ne 56, 3) := by decide +kernel
theorem dM_put_42 : decode cM_put 42 = .ok (.aload_n 0, 1) := by decide +kernel
theorem dM_put_43 : decode cM_put 43 = .ok (.getfield 13, 3) := by decide +kernel
theorem dM_put_46 : decode cM_put 46 = .ok (.aload_n 0, 1) := by decide +kernel
theorem dM_put_47 : decode cM_put 47 = .ok (.getfield 59, 3) := by decide +kernel
theorem dM_put_50 : decode cM_put 50 = .ok (.iload_n 1, 1) := by decide +kernel
theorem dM_put_51 : decode cM_put 51 = .ok (.iconst 4, 1) := by decide +kernel
theorem dM_put_52 : decode cM_put 52 = .ok (.if_icmp .ne 25, 3) := by decide +kernel
theorem dM_put_55 : decode cM_put 55 = .ok (.sipush 256, 3) := by decide +kernel
theorem dM_put_58 : decode cM_put 58 = .ok (.iload_n 2, 1) := by decide +kernel
theorem dM_put_59 : decode cM_put 59 = .ok (.imul, 1) := by decide +kernel
theorem dM_put_60 : decode cM_put 60 = .ok (.aload_n 0, 1) := by decide +kernel
theorem dM_put_61 : decode cM_put 61 = .ok (.getfield 13, 3) := by decide +kernel
theorem dM_put_64 : decode cM_put 64 = .ok (.aload_n 0, 1) := by decide +kernel
theorem dM_put_65 : decode cM_put 65 = .ok (.getfield 59, 3) := by decide +kernel
theorem dM_put_68 : decode cM_put 68 = .ok (.iaload, 1) := by decide +kernel
theorem dM_put_69 : decode cM_put 69 = .ok (.sipush 255, 3) := by decide +kernel
theorem dM_put_72 : decode cM_put 72 = .ok (.iand, 1) := by decide +kernel
theorem dM_put_73 : decode cM_put 73 = .ok (.iadd, 1) := by decide +kernel
theorem dM_put_74 : decode cM_put 74 = .ok (.goto 17, 3) := by decide +kernel
theorem dM_put_77 : decode cM_put 77 = .ok (.aload_n 0, 1) := by decide +kernel
theorem dM_put_78 : decode cM_put 78 = .ok (.getfield 13, 3) := by decide +kernel
theorem dM_put_81 : decode cM_put 81 = .ok (.aload_n 0, 1) := by decide +kernel
theorem dM_put_82 : decode cM_put 82 = .ok (.getfield 59, 3) := by decide +kernel
theorem dM_put_85 : decode cM_put 85 = .ok (.iaload, 1) := by decide +kernel
theorem dM_put_86 : decode cM_put 86 = .ok (.ldc 84, 2) := by decide +kernel
theorem dM_put_88 : decode cM_put 88 = .ok (.iand, 1) := by decide +kernel
theorem dM_put_89 : decode cM_put 89 = .ok (.iload_n 2, 1) := by decide +kernel
theorem dM_put_90 : decode cM_put 90 = .ok (.iadd, 1) := by decide +kernel
theorem dM_put_91 : decode cM_put 91 = .ok (.iastore, 1) := by decide +kernel
theorem dM_put_92 : decode cM_put 92 = .ok (.goto 22, 3) := by decide +kernel
theorem dM_put_95 : decode cM_put 95 = .ok (.aload_n 0, 1) := by decide +kernel
theorem dM_put_96 : decode cM_put 96 = .ok (.getfield 13, 3) := by decide +kernel
theorem dM_put_99 : decode cM_put 99 = .ok (.iload_n 1, 1) := by decide +kernel
theorem dM_put_100 : decode cM_put 100 = .ok (.bipush 7, 2) := by decide +kernel
theorem dM_put_102 : decode cM_put 102 = .ok (.if_icmp .ne 7, 3) := by decide +kernel
theorem dM_put_105 : decode cM_put 105 = .ok (.iconst 0, 1) := by decide +kernel
theorem dM_put_106 : decode cM_put 106 = .ok (.goto 6, 3) := by decide +kernel
theorem dM_put_109 : decode cM_put 109 = .ok (.iload_n 1, 1) := by decide +kernel
theorem dM_put_110 : decode cM_put 110 = .ok (.iconst 2, 1) := by decide +kernel
theorem dM_put_111 : decode cM_put 111 = .ok (.iadd, 1) := by decide +kernel
theorem dM_put_112 : decode cM_put 112 = .ok (.iload_n 2, 1) := by decide +kernel
theorem dM_put_113 : decode cM_put 113 = .ok (.iastore, 1) := by decide +kernel
theorem dM_put_114 : decode cM_put 114 = .ok (.return_, 1) := by decide +kernel
theorem dM_push_0 : decode cM_push 0 = .ok (.aload_n 0, 1) := by decide +kernel
theorem dM_push_1 : decode cM_push 1 = .ok (.getfield 13, 3) := by decide +kernel
theorem dM_push_4 : decode cM_push 4 = .ok (.bipush 20, 2) := by decide +kernel
theorem dM_push_6 : decode cM_push 6 = .ok (.aload_n 0, 1) := by decide +kernel
theorem dM_push_7 : decode cM_push 7 = .ok (.getfield 13, 3) := by decide +kernel
theorem dM_push_10 : decode cM_push 10 = .ok (.bipush 20, 2) := by decide +kernel
theorem dM_push_12 : decode cM_push 12 = .ok (.iaload, 1) := by decide +kernel
theorem dM_push_13 : decode cM_push 13 = .ok (.iconst 1, 1) := by decide +kernel
theorem dM_push_14 : decode cM_push 14 = .ok (.isub, 1) := by decide +kernel
theorem dM_push_15 : decode cM_push 15 = .ok (.ldc 44, 2) := by decide +kernel
theorem dM_push_17 : decode cM_push 17 = .ok (.iand, 1) := by decide +kernel
theorem dM_push_18 : decode cM_push 18 = .ok (.iastore, 1) := by decide +kernel
theorem dM_push_19 : decode cM_push 19 = .ok (.aload_n 0, 1) := by decide +kernel
theorem dM_push_20 : decode cM_push 20 = .ok (.aload_n 0, 1) := by decide +kernel
theorem dM_push_21 : decode cM_push 21 = .ok (.getfield 13, 3) := by decide +kernel
theorem dM_push_24 : decode cM_push 24 = .ok (.bipush 20, 2) := by decide +kernel
theorem dM_push_26 : decode cM_push 26 = .ok (.iaload, 1) := by decide +kernel
theorem dM_push_27 : decode cM_push 27 = .ok (.iload_n 1, 1) := by decide +kernel
theorem dM_push_28 : decode cM_push 28 = .ok (.bipush 8, 2) := by decide +kernel
theorem dM_push_30 : decode cM_push 30 = .ok (.ishr, 1) := by decide +kernel
theorem dM_push_31 : decode cM_push 31 = .ok (.invokevirtual 56, 3) := by decide +kernel
theorem dM_push_34 : decode cM_push 34 = .ok (.aload_n 0, 1) := by decide +kernel
theorem dM_push_35 : decode cM_push 35 = .ok (.getfield 13, 3) := by decide +kernel
theorem dM_push_38 : decode cM_push 38 = .ok (.bipush 20, 2) := by decide +kernel
theorem dM_push_40 : decode cM_push 40 = .ok (.aload_n 0, 1) := by decide +kernel
theorem dM_push_41 : decode cM_push 41 = .ok (.getfield 13, 3) := by decide +kernel
theorem dM_push_44 : decode cM_push 44 = .ok (.bipush 20, 2) := by decide +kernel
theorem dM_push_46 : decode cM_push 46 = .ok (.iaload, 1) := by decide +kernel
theorem dM_push_47 : decode cM_push 47 = .ok (.iconst 1, 1) := by decide +kernel
theorem dM_push_48 : decode cM_push 48 = .ok (.isub, 1) := by decide +kernel
theorem dM_push_49 : decode cM_push 49 = .ok (.ldc 44, 2) := by decide +kernel
theorem dM_push_51 : decode cM_push 51 = .ok (.iand, 1) := by decide +kernel
theorem dM_push_52 : decode cM_push 52 = .ok (.iastore, 1) := by decide +kernel
theorem dM_push_53 : decode cM_push 53 = .ok (.aload_n 0, 1) := by decide +kernel
theorem dM_push_54 : decode cM_push 54 = .ok (.aload_n 0, 1) := by decide +kernel
theorem dM_push_55 : decode cM_push 55 = .ok (.getfield 13, 3) := by decide +kernel
theorem dM_push_58 : decode cM_push 58 = .ok (.bipush 20, 2) := by decide +kernel
theorem dM_push_60 : decode cM_push 60 = .ok (.iaload, 1) := by decide +kernel
theorem dM_push_61 : decode cM_push 61 = .ok (.iload_n 1, 1) := by decide +kernel
theorem dM_push_62 : decode cM_push 62 = .ok (.invokevirtual 56, 3) := by decide +kernel
theorem dM_push_65 : decode cM_push 65 = .ok (.return_, 1) := by decide +kernel
theorem dM_pop_0 : decode cM_pop 0 = .ok (.aload_n 0, 1) := by decide +kernel
theorem dM_pop_1 : decode cM_pop 1 = .ok (.aload_n 0, 1) := by decide +kernel
theorem dM_pop_2 : decode cM_pop 2 = .ok (.getfield 13, 3) := by decide +kernel
theorem dM_pop_5 : decode cM_pop 5 = .ok (.bipush 20, 2) := by decide +kernel
theorem dM_pop_7 : decode cM_pop 7 = .ok (.iaload, 1) := by decide +kernel
theorem dM_pop_8 : decode cM_pop 8 = .ok (.invokevirtual 48, 3) := by decide +kernel
theorem dM_pop_11 : decode cM_pop 11 = .ok (.istore_n 1, 1) := by decide +kernel
theorem dM_pop_12 : decode cM_pop 12 = .ok (.aload_n 0, 1) := by decide +kernel
theorem dM_pop_13 : decode cM_pop 13 = .ok (.getfield 13, 3) := by decide +kernel
theorem dM_pop_16 : decode cM_pop 16 = .ok (.bipush 20, 2) := by decide +kernel
theorem dM_pop_18 : decode cM_pop 18 = .ok (.aload_n 0, 1) := by decide +kernel
theorem dM_pop_19 : decode cM_pop 19 = .ok (.getfield 13, 3) := by decide +kernel
theorem dM_pop_22 : decode cM_pop 22 = .ok (.bipush 20, 2) := by decide +kernel
theorem dM_pop_24 : decode cM_pop 24 = .ok (.iaload, 1) := by decide +kernel
theorem dM_pop_25 : decode cM_pop 25 = .ok (.iconst 1, 1) := by decide +kernel
theorem dM_pop_26 : decode cM_pop 26 = .ok (.iadd, 1) := by decide +kernel
theorem dM_pop_27 : decode cM_pop 27 = .ok (.ldc 44, 2) := by decide +kernel
theorem dM_pop_29 : decode cM_pop 29 = .ok (.iand, 1) := by decide +kernel
theorem dM_pop_30 : decode cM_pop 30 = .ok (.iastore, 1) := by decide +kernel
theorem dM_pop_31 : decode cM_pop 31 = .ok (.aload_n 0, 1) := by decide +kernel
theorem dM_pop_32 : decode cM_pop 32 = .ok (.aload_n 0, 1) := by decide +kernel
theorem dM_pop_33 : decode cM_pop 33 = .ok (.getfield 13, 3) := by decide +kernel
theorem dM_pop_36 : decode cM_pop 36 = .ok (.bipush 20, 2) := by decide +kernel
theorem dM_pop_38 : decode cM_pop 38 = .ok (.iaload, 1) := by decide +kernel
theorem dM_pop_39 : decode cM_pop 39 = .ok (.invokevirtual 48, 3) := by decide +kernel
theorem dM_pop_42 : decode cM_pop 42 = .ok (.istore_n 2, 1) := by decide +kernel
theorem dM_pop_43 : decode cM_pop 43 = .ok (.aload_n 0, 1) := by decide +kernel
theorem dM_pop_44 : decode cM_pop 44 = .ok (.getfield 13, 3) := by decide +kernel
theorem dM_pop_47 : decode cM_pop 47 = .ok (.bipush 20, 2) := by decide +kernel
theorem dM_pop_49 : decode cM_pop 49 = .ok (.aload_n 0, 1) := by decide +kernel
theorem dM_pop_50 : decode cM_pop 50 = .ok (.getfield 13, 3) := by decide +kernel
theorem dM_pop_53 : decode cM_pop 53 = .ok (.bipush 20, 2) := by decide +kernel
theorem dM_pop_55 : decode cM_pop 55 = .ok (.iaload, 1) := by decide +kernel
theorem dM_pop_56 : decode cM_pop 56 = .ok (.iconst 1, 1) := by decide +kernel
theorem dM_pop_57 : decode cM_pop 57 = .ok (.iadd, 1) := by decide +kernel
theorem dM_pop_58 : decode cM_pop 58 = .ok (.ldc 44, 2) := by decide +kernel
theorem dM_pop_60 : decode cM_pop 60 = .ok (.iand, 1) := by decide +kernel
theorem dM_pop_61 : decode cM_pop 61 = .ok (.iastore, 1) := by decide +kernel
theorem dM_pop_62 : decode cM_pop 62 = .ok (.sipush 256, 3) := by decide +kernel
theorem dM_pop_65 : decode cM_pop 65 = .ok (.iload_n 2, 1) := by decide +kernel
theorem dM_pop_66 : decode cM_pop 66 = .ok (.imul, 1) := by decide +kernel
theorem dM_pop_67 : decode cM_pop 67 = .ok (.iload_n 1, 1) := by decide +kernel
theorem dM_pop_68 : decode cM_pop 68 = .ok (.iadd, 1) := by decide +kernel
theorem dM_pop_69 : decode cM_pop 69 = .ok (.ireturn, 1) := by decide +kernel
theorem dM_cond_0 : decode cM_cond 0 = .ok (.iload_n 1, 1) := by decide +kernel
theorem dM_cond_1 : decode cM_cond 1 = .ok (.iconst 2, 1) := by decide +kernel
theorem dM_cond_2 : decode cM_cond 2 = .ok (.if_icmp .ge 8, 3) := by decide +kernel
theorem dM_cond_5 : decode cM_cond 5 = .ok (.bipush 64, 2) := by decide +kernel
theorem dM_cond_7 : decode cM_cond 7 = .ok (.goto 25, 3) := by decide +kernel
theorem dM_cond_10 : decode cM_cond 10 = .ok (.iload_n 1, 1) := by decide +kernel
theorem dM_cond_11 : decode cM_cond 11 = .ok (.iconst 4, 1) := by decide +kernel
theorem dM_cond_12 : decode cM_cond 12 = .ok (.if_icmp .ge 7, 3) := by decide +kernel
theorem dM_cond_15 : decode cM_cond 15 = .ok (.iconst 1, 1) := by decide +kernel
theorem dM_cond_16 : decode cM_cond 16 = .ok (.goto 16, 3) := by decide +kernel
theorem dM_cond_19 : decode cM_cond 19 = .ok (.iload_n 1, 1) := by decide +kernel
theorem dM_cond_20 : decode cM_cond 20 = .ok (.bipush 6, 2) := by decide +kernel
theorem dM_cond_22 : decode cM_cond 22 = .ok (.if_icmp .ge 7, 3) := by decide +kernel
theorem dM_cond_25 : decode cM_cond 25 = .ok (.iconst 4, 1) := by decide +kernel
theorem dM_cond_26 : decode cM_cond 26 = .ok (.goto 6, 3) := by decide +kernel
theorem dM_cond_29 : decode cM_cond 29 = .ok (.sipush 128, 3) := by decide +kernel
theorem dM_cond_32 : decode cM_cond 32 = .ok (.istore_n 2, 1) := by decide +kernel
theorem dM_cond_33 : decode cM_cond 33 = .ok (.aload_n 0, 1) := by decide +kernel
theorem dM_cond_34 : decode cM_cond 34 = .ok (.getfield 13, 3) := by decide +kernel
theorem dM_cond_37 : decode cM_cond 37 = .ok (.iconst 1, 1) := by decide +kernel
theorem dM_cond_38 : decode cM_cond 38 = .ok (.iaload, 1) := by decide +kernel
theorem dM_cond_39 : decode cM_cond 39 = .ok (.iload_n 2, 1) := by decide +kernel
theorem dM_cond_40 : decode cM_cond 40 = .ok (.iand, 1) := by decide +kernel
theorem dM_cond_41 : decode cM_cond 41 = .ok (.ifCond .eq 7, 3) := by decide +kernel
theorem dM_cond_44 : decode cM_cond 44 = .ok (.iconst 1, 1) := by decide +kernel
theorem dM_cond_45 : decode cM_cond 45 = .ok (.goto 4, 3) := by decide +kernel
theorem dM_cond_48 : decode cM_cond 48 = .ok (.iconst 0, 1) := by decide +kernel
theorem dM_cond_49 : decode cM_cond 49 = .ok (.iload_n 1, 1) := by decide +kernel
theorem dM_cond_50 : decode cM_cond 50 = .ok (.iconst 2, 1) := by decide +kernel
theorem dM_cond_51 : decode cM_cond 51 = .ok (.irem, 1) := by decide +kernel
theorem dM_cond_52 : decode cM_cond 52 = .ok (.iconst 1, 1) := by decide +kernel
theorem dM_cond_53 : decode cM_cond 53 = .ok (.if_icmp .ne 7, 3) := by decide +kernel
theorem dM_cond_56 : decode cM_cond 56 = .ok (.iconst 1, 1) := by decide +kernel
theorem dM_cond_57 : decode cM_cond 57 = .ok (.goto 4, 3) := by decide +kernel
theorem dM_cond_60 : decode cM_cond 60 = .ok (.iconst 0, 1) := by decide +kernel
theorem dM_cond_61 : decode cM_cond 61 = .ok (.if_icmp .ne 7, 3) := by decide +kernel
theorem dM_cond_64 : decode cM_cond 64 = .ok (.iconst 1, 1) := by decide +kernel
theorem dM_cond_65 : decode cM_cond 65 = .ok (.goto 4, 3) := by decide +kernel
theorem dM_cond_68 : decode cM_cond 68 = .ok (.iconst 0, 1) := by decide +kernel
theorem dM_cond_69 : decode cM_cond 69 = .ok (.ireturn, 1) := by decide +kernel
theorem dM_change_0 : decode cM_change 0 = .ok (.aload_n 0, 1) := by decide +kernel
theorem dM_change_1 : decode cM_change 1 = .ok (.getfield 13, 3) := by decide +kernel
theorem dM_change_4 : decode cM_change 4 = .ok (.iload_n 1, 1) := by decide +kernel
theorem dM_change_5 : decode cM_change 5 = .ok (.iaload, 1) := by decide +kernel
theorem dM_change_6 : decode cM_change 6 = .ok (.istore_n 3, 1) := by decide +kernel
theorem dM_change_7 : decode cM_change 7 = .ok (.aload_n 0, 1) := by decide +kernel
theorem dM_change_8 : decode cM_change 8 = .ok (.getfield 13, 3) := by decide +kernel
theorem dM_change_11 : decode cM_change 11 = .ok (.iload_n 1, 1) := by decide +kernel
theorem dM_change_12 : decode cM_change 12 = .ok (.aload_n 0, 1) := by decide +kernel
theorem dM_change_13 : decode cM_change 13 = .ok (.getfield 13, 3) := by decide +kernel
theorem dM_change_16 : decode cM_change 16 = .ok (.iload_n 2, 1) := by decide +kernel
theorem dM_change_17 : decode cM_change 17 = .ok (.iaload, 1) := by decide +kernel
theorem dM_change_18 : decode cM_change 18 = .ok (.iastore, 1) := by decide +kernel
theorem dM_change_19 : decode cM_change 19 = .ok (.aload_n 0, 1) := by decide +kernel
theorem dM_change_20 : decode cM_change 20 = .ok (.getfield 13, 3) := by decide +kernel
theorem dM_change_23 : decode cM_change 23 = .ok (.iload_n 2, 1) := by decide +kernel
theorem dM_change_24 : decode cM_change 24 = .ok (.iload_n 3, 1) := by decide +kernel
theorem dM_change_25 : decode cM_change 25 = .ok (.iastore, 1) := by decide +kernel
theorem dM_change_26 : decode cM_change 26 = .ok (.return_, 1) := by decide +kernel
theorem dM_sum_0 : decode cM_sum 0 = .ok (.iload_n 3, 1) := by decide +kernel
theorem dM_sum_1 : decode cM_sum 1 = .ok (.istore 5, 2) := by decide +kernel
theorem dM_sum_3 : decode cM_sum 3 = .ok (.iconst 0, 1) := by decide +kernel
theorem dM_sum_4 : decode cM_sum 4 = .ok (.istore 6, 2) := by decide +kernel
theorem dM_sum_6 : decode cM_sum 6 = .ok (.aload_n 0, 1) := by decide +kernel
theorem dM_sum_7 : decode cM_sum 7 = .ok (.iconst 0, 1) := by decide +kernel
theorem dM_sum_8 : decode cM_sum 8 = .ok (.putfield 85, 3) := by decide +kernel
theorem dM_sum_11 : decode cM_sum 11 = .ok (.iconst 0, 1) := by decide +kernel
theorem dM_sum_12 : decode cM_sum 12 = .ok (.istore 7, 2) := by decide +kernel
theorem dM_sum_14 : decode cM_sum 14 = .ok (.iload 7, 2) := by decide +kernel
theorem dM_sum_16 : decode cM_sum 16 = .ok (.iload 4, 2) := by decide +kernel
theorem dM_sum_18 : decode cM_sum 18 = .ok (.if_icmp .ge 96, 3) := by decide +kernel
theorem dM_sum_21 : decode cM_sum 21 = .ok (.iload_n 1, 1) := by decide +kernel
theorem dM_sum_22 : decode cM_sum 22 = .ok (.iload 7, 2) := by decide +kernel
theorem dM_sum_24 : decode cM_sum 24 = .ok (.ishr, 1) := by decide +kernel
theorem dM_sum_25 : decode cM_sum 25 = .ok (.iconst 1, 1) := by decide +kernel
theorem dM_sum_26 : decode cM_sum 26 = .ok (.iand, 1) := by decide +kernel
theorem dM_sum_27 : decode cM_sum 27 = .ok (.iload_n 2, 1) := by decide +kernel
theorem dM_sum_28 : decode cM_sum 28 = .ok (.iload 7, 2) := by decide +kernel
theorem dM_sum_30 : decode cM_sum 30 = .ok (.ishr, 1) := by decide +kernel
theorem dM_sum_31 : decode cM_sum 31 = .ok (.iconst 1, 1) := by decide +kernel
theorem dM_sum_32 : decode cM_sum 32 = .ok (.iand, 1) := by decide +kernel
theorem dM_sum_33 : decode cM_sum 33 = .ok (.iadd, 1) := by decide +kernel
theorem dM_sum_34 : decode cM_sum 34 = .ok (.iload 5, 2) := by decide +kernel
theorem dM_sum_36 : decode cM_sum 36 = .ok (.iadd, 1) := by decide +kernel
theorem dM_sum_37 : decode cM_sum 37 = .ok (.istore 8, 2) := by decide +kernel
theorem dM_sum_39 : decode cM_sum 39 = .ok (.iload 6, 2) := by decide +kernel
theorem dM_sum_41 : decode cM_sum 41 = .ok (.iload 8, 2) := by decide +kernel
theorem dM_sum_43 : decode cM_sum 43 = .ok (.iconst 1, 1) := by decide +kernel
theorem dM_sum_44 : decode cM_sum 44 = .ok (.iand, 1) := by decide +kernel
theorem dM_sum_45 : decode cM_sum 45 = .ok (.iload 7, 2) := by decide +kernel
theorem dM_sum_47 : decode cM_sum 47 = .ok (.ishl, 1) := by decide +kernel
theorem dM_sum_48 : decode cM_sum 48 = .ok (.ior, 1) := by decide +kernel
theorem dM_sum_49 : decode cM_sum 49 = .ok (.istore 6, 2) := by decide +kernel
theorem dM_sum_51 : decode cM_sum 51 = .ok (.aload_n 0, 1) := by decide +kernel
theorem dM_sum_52 : decode cM_sum 52 = .ok (.iload 7, 2) := by decide +kernel
theorem dM_sum_54 : decode cM_sum 54 = .ok (.iload 4, 2) := by decide +kernel
theorem dM_sum_56 : decode cM_sum 56 = .ok (.iconst 1, 1) := by decide +kernel
theorem dM_sum_57 : decode cM_sum 57 = .ok (.isub, 1) := by decide +kernel
theorem dM_sum_58 : decode cM_sum 58 = .ok (.if_icmp .ne 16, 3) := by decide +kernel
theorem dM_sum_61 : decode cM_sum 61 = .ok (.iload 5, 2) := by decide +kernel
theorem dM_sum_63 : decode cM_sum 63 = .ok (.iload 8, 2) := by decide +kernel
theorem dM_sum_65 : decode cM_sum 65 = .ok (.iconst 1, 1) := by decide +kernel
theorem dM_sum_66 : decode cM_sum 66 = .ok (.ishr, 1) := by decide +kernel
theorem dM_sum_67 : decode cM_sum 67 = .ok (.if_icmp .eq 7, 3) := by decide +kernel
theorem dM_sum_70 : decode cM_sum 70 = .ok (.iconst 1, 1) := by decide +kernel
theorem dM_sum_71 : decode cM_sum 71 = .ok (.goto 4, 3) := by decide +kernel
theorem dM_sum_74 : decode cM_sum 74 = .ok (.iconst 0, 1) := by decide +kernel
theorem dM_sum_75 : decode cM_sum 75 = .ok (.putfield 85, 3) := by decide +kernel
theorem dM_sum_78 : decode cM_sum 78 = .ok (.iload 8, 2) := by decide +kernel
theorem dM_sum_80 : decode cM_sum 80 = .ok (.iconst 1, 1) := by decide +kernel
theorem dM_sum_81 : decode cM_sum 81 = .ok (.ishr, 1) := by decide +kernel
theorem dM_sum_82 : decode cM_sum 82 = .ok (.istore 5, 2) := by decide +kernel
theorem dM_sum_84 : decode cM_sum 84 = .ok (.iload 7, 2) := by decide +kernel
theorem dM_sum_86 : decode cM_sum 86 = .ok (.iload 4, 2) := by decide +kernel
theorem dM_sum_88 : decode cM_sum 88 = .ok (.iconst 5, 1) := by decide +kernel
theorem dM_sum_89 : decode cM_sum 89 = .ok (.isub, 1) := by decide +kernel
theorem dM_sum_90 : decode cM_sum 90 = .ok (.if_icmp .ne 18, 3) := by decide +kernel
theorem dM_sum_93 : decode cM_sum 93 = .ok (.aload_n 0, 1) := by decide +kernel
theorem dM_sum_94 : decode cM_sum 94 = .ok (.iload 5, 2) := by decide +kernel
theorem dM_sum_96 : decode cM_sum 96 = .ok (.iconst 1, 1) := by decide +kernel
theorem dM_sum_97 : decode cM_sum 97 = .ok (.if_icmp .ne 7, 3) := by decide +kernel
theorem dM_sum_100 : decode cM_sum 100 = .ok (.iconst 1, 1) := by decide +kernel
theorem dM_sum_101 : decode cM_sum 101 = .ok (.goto 4, 3) := by decide +kernel
theorem dM_sum_104 : decode cM_sum 104 = .ok (.iconst 0, 1) := by decide +kernel
theorem dM_sum_105 : decode cM_sum 105 = .ok (.putfield 88, 3) := by decide +kernel
theorem dM_sum_108 : decode cM_sum 108 = .ok (.iinc 7 1, 3) := by decide +kernel
theorem dM_sum_111 : decode cM_sum 111 = .ok (.goto (-97), 3) := by decide +kernel
theorem dM_sum_114 : decode cM_sum 114 = .ok (.aload_n 0, 1) := by decide +kernel
theorem dM_sum_115 : decode cM_sum 115 = .ok (.iload 5, 2) := by decide +kernel
theorem dM_sum_117 : decode cM_sum 117 = .ok (.iconst 1, 1) := by decide +kernel
theorem dM_sum_118 : decode cM_sum 118 = .ok (.if_icmp .ne 7, 3) := by decide +kernel
theorem dM_sum_121 : decode cM_sum 121 = .ok (.iconst 1, 1) := by decide +kernel
theorem dM_sum_122 : decode cM_sum 122 = .ok (.goto 4, 3) := by decide +kernel
theorem dM_sum_125 : decode cM_sum 125 = .ok (.iconst 0, 1) := by decide +kernel
theorem dM_sum_126 : decode cM_sum 126 = .ok (.putfield 91, 3) := by decide +kernel
theorem dM_sum_129 : decode cM_sum 129 = .ok (.iload 6, 2) := by decide +kernel
theorem dM_sum_131 : decode cM_sum 131 = .ok (.ireturn, 1) := by decide +kernel
theorem dM_difference_0 : decode cM_difference 0 = .ok (.aload_n 0, 1) := by decide +kernel
theorem dM_difference_1 : decode cM_difference 1 = .ok (.iload_n 1, 1) := by decide +kernel
theorem dM_difference_2 : decode cM_difference 2 = .ok (.iload_n 2, 1) := by decide +kernel
theorem dM_difference_3 : decode cM_difference 3 = .ok (.iconst (-1), 1) := by decide +kernel
theorem dM_difference_4 : decode cM_difference 4 = .ok (.ixor, 1) := by decide +kernel
theorem dM_difference_5 : decode cM_difference 5 = .ok (.iconst 1, 1) := by decide +kernel
theorem dM_difference_6 : decode cM_difference 6 = .ok (.iload_n 3, 1) := by decide +kernel
theorem dM_difference_7 : decode cM_difference 7 = .ok (.isub, 1) := by decide +kernel
theorem dM_difference_8 : decode cM_difference 8 = .ok (.iload 4, 2) := by decide +kernel
theorem dM_difference_10 : decode cM_difference 10 = .ok (.invokevirtual 94, 3) := by decide +kernel
theorem dM_difference_13 : decode cM_difference 13 = .ok (.istore 5, 2) := by decide +kernel
theorem dM_difference_15 : decode cM_difference 15 = .ok (.aload_n 0, 1) := by decide +kernel
theorem dM_difference_16 : decode cM_difference 16 = .ok (.aload_n 0, 1) := by decide +kernel
theorem dM_difference_17 : decode cM_difference 17 = .ok (.getfield 88, 3) := by decide +kernel
theorem dM_difference_20 : decode cM_difference 20 = .ok (.ifCond .ne 7, 3) := by decide +kernel
theorem dM_difference_23 : decode cM_difference 23 = .ok (.iconst 1, 1) := by decide +kernel
theorem dM_difference_24 : decode cM_difference 24 = .ok (.goto 4, 3) := by decide +kernel
theorem dM_difference_27 : decode cM_difference 27 = .ok (.iconst 0, 1) := by decide +kernel
theorem dM_difference_28 : decode cM_difference 28 = .ok (.putfield 88, 3) := by decide +kernel
theorem dM_difference_31 : decode cM_difference 31 = .ok (.aload_n 0, 1) := by decide +kernel
theorem dM_difference_32 : decode cM_difference 32 = .ok (.aload_n 0, 1) := by decide +kernel
theorem dM_difference_33 : decode cM_difference 33 = .ok (.getfield 91, 3) := by decide +kernel
theorem dM_difference_36 : decode cM_difference 36 = .ok (.ifCond .ne 7, 3) := by decide +kernel
theorem dM_difference_39 : decode cM_difference 39 = .ok (.iconst 1, 1) := by decide +kernel
theorem dM_difference_40 : decode cM_difference 40 = .ok (.goto 4, 3) := by decide +kernel
theorem dM_difference_43 : decode cM_difference 43 = .ok (.iconst 0, 1) := by decide +kernel
theorem dM_difference_44 : decode cM_difference 44 = .ok (.putfield 91, 3) := by decide +kernel
theorem dM_difference_47 : decode cM_difference 47 = .ok (.iload 5, 2) := by decide +kernel
theorem dM_difference_49 : decode cM_difference 49 = .ok (.ireturn, 1) := by decide +kernel
theorem dM_parity_0 : decode cM_parity 0 = .ok (.iconst 0, 1) := by decide +kernel
theorem dM_parity_1 : decode cM_parity 1 = .ok (.istore_n 1, 1) := by decide +kernel
theorem dM_parity_2 : decode cM_parity 2 = .ok (.iconst 0, 1) := by decide +kernel
theorem dM_parity_3 : decode cM_parity 3 = .ok (.istore_n 2, 1) := by decide +kernel
theorem dM_parity_4 : decode cM_parity 4 = .ok (.iload_n 2, 1) := by decide +kernel
theorem dM_parity_5 : decode cM_parity 5 = .ok (.bipush 8, 2) := by decide +kernel
theorem dM_parity_7 : decode cM_parity 7 = .ok (.if_icmp .ge 17, 3) := by decide +kernel
theorem dM_parity_10 : decode cM_parity 10 = .ok (.iload_n 1, 1) := by decide +kernel
theorem dM_parity_11 : decode cM_parity 11 = .ok (.iload_n 0, 1) := by decide +kernel
theorem dM_parity_12 : decode cM_parity 12 = .ok (.iload_n 2, 1) := by decide +kernel
theorem dM_parity_13 : decode cM_parity 13 = .ok (.ishr, 1) := by decide +kernel
theorem dM_parity_14 : decode cM_parity 14 = .ok (.iconst 1, 1) := by decide +kernel
theorem dM_parity_15 : decode cM_parity 15 = .ok (.iand, 1) := by decide +kernel
theorem dM_parity_16 : decode cM_parity 16 = .ok (.iadd, 1) := by decide +kernel
theorem dM_parity_17 : decode cM_parity 17 = .ok (.istore_n 1, 1) := by decide +kernel
theorem dM_parity_18 : decode cM_parity 18 = .ok (.iinc 2 1, 3) := by decide +kernel
theorem dM_parity_21 : decode cM_parity 21 = .ok (.goto (-17), 3) := by decide +kernel
theorem dM_parity_24 : decode cM_parity 24 = .ok (.iload_n 1, 1) := by decide +kernel
theorem dM_parity_25 : decode cM_parity 25 = .ok (.iconst 2, 1) := by decide +kernel
theorem dM_parity_26 : decode cM_parity 26 = .ok (.irem, 1) := by decide +kernel
theorem dM_parity_27 : decode cM_parity 27 = .ok (.ifCond .ne 7, 3) := by decide +kernel
theorem dM_parity_30 : decode cM_parity 30 = .ok (.iconst 4, 1) := by decide +kernel
theorem dM_parity_31 : decode cM_parity 31 = .ok (.goto 4, 3) := by decide +kernel
theorem dM_parity_34 : decode cM_parity 34 = .ok (.iconst 0, 1) := by decide +kernel
theorem dM_parity_35 : decode cM_parity 35 = .ok (.ireturn, 1) := by decide +kernel
theorem dM_by_0 : decode cM_by 0 = .ok (.iload_n 0, 1) := by decide +kernel
theorem dM_by_1 : decode cM_by 1 = .ok (.sipush 168, 3) := by decide +kernel
theorem dM_by_4 : decode cM_by 4 = .ok (.iand, 1) := by decide +kernel
theorem dM_by_5 : decode cM_by 5 = .ok (.iload_n 0, 1) := by decide +kernel
theorem dM_by_6 : decode cM_by 6 = .ok (.ifCond .ne 8, 3) := by decide +kernel
theorem dM_by_9 : decode cM_by 9 = .ok (.bipush 64, 2) := by decide +kernel
theorem dM_by_11 : decode cM_by 11 = .ok (.goto 4, 3) := by decide +kernel
theorem dM_by_14 : decode cM_by 14 = .ok (.iconst 0, 1) := by decide +kernel
theorem dM_by_15 : decode cM_by 15 = .ok (.ior, 1) := by decide +kernel
theorem dM_by_16 : decode cM_by 16 = .ok (.ireturn, 1) := by decide +kernel
theorem dM_rest_0 : decode cM_rest 0 = .ok (.aload_n 0, 1) := by decide +kernel
theorem dM_rest_1 : decode cM_rest 1 = .ok (.getfield 88, 3) := by decide +kernel
theorem dM_rest_4 : decode cM_rest 4 = .ok (.ifCond .eq 8, 3) := by decide +kernel
theorem dM_rest_7 : decode cM_rest 7 = .ok (.bipush 16, 2) := by decide +kernel
theorem dM_rest_9 : decode cM_rest 9 = .ok (.goto 4, 3) := by decide +kernel
theorem dM_rest_12 : decode cM_rest 12 = .ok (.iconst 0, 1) := by decide +kernel
theorem dM_rest_13 : decode cM_rest 13 = .ok (.aload_n 0, 1) := by decide +kernel
theorem dM_rest_14 : decode cM_rest 14 = .ok (.getfield 85, 3) := by decide +kernel
theorem dM_rest_17 : decode cM_rest 17 = .ok (.ifCond .eq 7, 3) := by decide +kernel
theorem dM_rest_20 : decode cM_rest 20 = .ok (.iconst 4, 1) := by decide +kernel
theorem dM_rest_21 : decode cM_rest 21 = .ok (.goto 4, 3) := by decide +kernel
theorem dM_rest_24 : decode cM_rest 24 = .ok (.iconst 0, 1) := by decide +kernel
theorem dM_rest_25 : decode cM_rest 25 = .ok (.ior, 1) := by decide +kernel
theorem dM_rest_26 : decode cM_rest 26 = .ok (.aload_n 0, 1) := by decide +kernel
theorem dM_rest_27 : decode cM_rest 27 = .ok (.getfield 91, 3) := by decide +kernel
theorem dM_rest_30 : decode cM_rest 30 = .ok (.ifCond .eq 7, 3) := by decide +kernel
theorem dM_rest_33 : decode cM_rest 33 = .ok (.iconst 1, 1) := by decide +kernel
theorem dM_rest_34 : decode cM_rest 34 = .ok (.goto 4, 3) := by decide +kernel
theorem dM_rest_37 : decode cM_rest 37 = .ok (.iconst 0, 1) := by decide +kernel
theorem dM_rest_38 : decode cM_rest 38 = .ok (.ior, 1) := by decide +kernel
theorem dM_rest_39 : decode cM_rest 39 = .ok (.iload_n 1, 1) := by decide +kernel
theorem dM_rest_40 : decode cM_rest 40 = .ok (.ior, 1) := by decide +kernel
theorem dM_rest_41 : decode cM_rest 41 = .ok (.ireturn, 1) := by decide +kernel
theorem dM_work_0 : decode cM_work 0 = .ok (.aload_n 0, 1) := by decide +kernel
theorem dM_work_1 : decode cM_work 1 = .ok (.getfield 13, 3) := by decide +kernel
theorem dM_work_4 : decode cM_work 4 = .ok (.iconst 0, 1) := by decide +kernel
theorem dM_work_5 : decode cM_work 5 = .ok (.iaload, 1) := by decide +kernel
theorem dM_work_6 : decode cM_work 6 = .ok (.istore_n 3, 1) := by decide +kernel
theorem dM_work_7 : decode cM_work 7 = .ok (.aload_n 0, 1) := by decide +kernel
theorem dM_work_8 : decode cM_work 8 = .ok (.getfield 13, 3) := by decide +kernel
theorem dM_work_11 : decode cM_work 11 = .ok (.iconst 1, 1) := by decide +kernel
theorem dM_work_12 : decode cM_work 12 = .ok (.iaload, 1) := by decide +kernel
theorem dM_work_13 : decode cM_work 13 = .ok (.iconst 1, 1) := by decide +kernel
theorem dM_work_14 : decode cM_work 14 = .ok (.iand, 1) := by decide +kernel
theorem dM_work_15 : decode cM_work 15 = .ok (.istore 4, 2) := by decide +kernel
theorem dM_work_17 : decode cM_work 17 = .ok (.iload_n 1, 1) := by decide +kernel
theorem dM_work_18 : decode cM_work 18 = .ok (.iconst 2, 1) := by decide +kernel
theorem dM_work_19 : decode cM_work 19 = .ok (.if_icmp .ge 52, 3) := by decide +kernel
theorem dM_work_22 : decode cM_work 22 = .ok (.aload_n 0, 1) := by decide +kernel
theorem dM_work_23 : decode cM_work 23 = .ok (.getfield 13, 3) := by decide +kernel
theorem dM_work_26 : decode cM_work 26 = .ok (.iconst 0, 1) := by decide +kernel
theorem dM_work_27 : decode cM_work 27 = .ok (.aload_n 0, 1) := by decide +kernel
theorem dM_work_28 : decode cM_work 28 = .ok (.iload_n 3, 1) := by decide +kernel
theorem dM_work_29 : decode cM_work 29 = .ok (.iload_n 2, 1) := by decide +kernel
theorem dM_work_30 : decode cM_work 30 = .ok (.iload_n 1, 1) := by decide +kernel
theorem dM_work_31 : decode cM_work 31 = .ok (.iconst 1, 1) := by decide +kernel
theorem dM_work_32 : decode cM_work 32 = .ok (.if_icmp .ne 8, 3) := by decide +kernel
theorem dM_work_35 : decode cM_work 35 = .ok (.iload 4, 2) := by decide +kernel
theorem dM_work_37 : decode cM_work 37 = .ok (.goto 4, 3) := by decide +kernel
theorem dM_work_40 : decode cM_work 40 = .ok (.iconst 0, 1) := by decide +kernel
theorem dM_work_41 : decode cM_work 41 = .ok (.bipush 8, 2) := by decide +kernel
theorem dM_work_43 : decode cM_work 43 = .ok (.invokevirtual 94, 3) := by decide +kernel
theorem dM_work_46 : decode cM_work 46 = .ok (.iastore, 1) := by decide +kernel
theorem dM_work_47 : decode cM_work 47 = .ok (.aload_n 0, 1) := by decide +kernel
theorem dM_work_48 : decode cM_work 48 = .ok (.getfield 13, 3) := by decide +kernel
theorem dM_work_51 : decode cM_work 51 = .ok (.iconst 1, 1) := by decide +kernel
theorem dM_work_52 : decode cM_work 52 = .ok (.aload_n 0, 1) := by decide +kernel
theorem dM_work_53 : decode cM_work 53 = .ok (.getfield 13, 3) := by decide +kernel
theorem dM_work_56 : decode cM_work 56 = .ok (.iconst 0, 1) := by decide +kernel
theorem dM_work_57 : decode cM_work 57 = .ok (.iaload, 1) := by decide +kernel
theorem dM_work_58 : decode cM_work 58 = .ok (.invokestatic 98, 3) := by decide +kernel
theorem dM_work_61 : decode cM_work 61 = .ok (.aload_n 0, 1) := by decide +kernel
theorem dM_work_62 : decode cM_work 62 = .ok (.iconst 0, 1) := by decide +kernel
theorem dM_work_63 : decode cM_work 63 = .ok (.invokevirtual 101, 3) := by decide +kernel
theorem dM_work_66 : decode cM_work 66 = .ok (.ior, 1) := by decide +kernel
theorem dM_work_67 : decode cM_work 67 = .ok (.iastore, 1) := by decide +kernel
theorem dM_work_68 : decode cM_work 68 = .ok (.goto 165, 3) := by decide +kernel
theorem dM_work_71 : decode cM_work 71 = .ok (.iload_n 1, 1) := by decide +kernel
theorem dM_work_72 : decode cM_work 72 = .ok (.iconst 2, 1) := by decide +kernel
theorem dM_work_73 : decode cM_work 73 = .ok (.if_icmp .eq 14, 3) := by decide +kernel
theorem dM_work_76 : decode cM_work 76 = .ok (.iload_n 1, 1) := by decide +kernel
theorem dM_work_77 : decode cM_work 77 = .ok (.iconst 3, 1) := by decide +kernel
theorem dM_work_78 : decode cM_work 78 = .ok (.if_icmp .eq 9, 3) := by decide +kernel
theorem dM_work_81 : decode cM_work 81 = .ok (.iload_n 1, 1) := by decide +kernel
theorem dM_work_82 : decode cM_work 82 = .ok (.bipush 7, 2) := by decide +kernel
theorem dM_work_84 : decode cM_work 84 = .ok (.if_icmp .ne 81, 3) := by decide +kernel
theorem dM_work_87 : decode cM_work 87 = .ok (.aload_n 0, 1) := by decide +kernel
theorem dM_work_88 : decode cM_work 88 = .ok (.iload_n 3, 1) := by decide +kernel
theorem dM_work_89 : decode cM_work 89 = .ok (.iload_n 2, 1) := by decide +kernel
theorem dM_work_90 : decode cM_work 90 = .ok (.iload_n 1, 1) := by decide +kernel
theorem dM_work_91 : decode cM_work 91 = .ok (.iconst 3, 1) := by decide +kernel
theorem dM_work_92 : decode cM_work 92 = .ok (.if_icmp .ne 8, 3) := by decide +kernel
theorem dM_work_95 : decode cM_work 95 = .ok (.iload 4, 2) := by decide +kernel
theorem dM_work_97 : decode cM_work 97 = .ok (.goto 4, 3) := by decide +kernel
theorem dM_work_100 : decode cM_work 100 = .ok (.iconst 0, 1) := by decide +kernel
theorem dM_work_101 : decode cM_work 101 = .ok (.bipush 8, 2) := by decide +kernel
theorem dM_work_103 : decode cM_work 103 = .ok (.invokevirtual 104, 3) := by decide +kernel
theorem dM_work_106 : decode cM_work 106 = .ok (.istore 5, 2) := by decide +kernel
theorem dM_work_108 : decode cM_work 108 = .ok (.aload_n 0, 1) := by decide +kernel
theorem dM_work_109 : decode cM_work 109 = .ok (.getfield 13, 3) := by decide +kernel
theorem dM_work_112 : decode cM_work 112 = .ok (.iconst 1, 1) := by decide +kernel
theorem dM_work_113 : decode cM_work 113 = .ok (.iload 5, 2) := by decide +kernel
theorem dM_work_115 : decode cM_work 115 = .ok (.invokestatic 98, 3) := by decide +kernel
theorem dM_work_118 : decode cM_work 118 = .ok (.bipush (-41), 2) := by decide +kernel
theorem dM_work_120 : decode cM_work 120 = .ok (.iand, 1) := by decide +kernel
theorem dM_work_121 : decode cM_work 121 = .ok (.iload_n 1, 1) := by decide +kernel
theorem dM_work_122 : decode cM_work 122 = .ok (.bipush 7, 2) := by decide +kernel
theorem dM_work_124 : decode cM_work 124 = .ok (.if_icmp .ne 7, 3) := by decide +kernel
theorem dM_work_127 : decode cM_work 127 = .ok (.iload_n 2, 1) := by decide +kernel
theorem dM_work_128 : decode cM_work 128 = .ok (.goto 5, 3) := by decide +kernel
theorem dM_work_131 : decode cM_work 131 = .ok (.iload 5, 2) := by decide +kernel
theorem dM_work_133 : decode cM_work 133 = .ok (.bipush 40, 2) := by decide +kernel
theorem dM_work_135 : decode cM_work 135 = .ok (.iand, 1) := by decide +kernel
theorem dM_work_136 : decode cM_work 136 = .ok (.ior, 1) := by decide +kernel
theorem dM_work_137 : decode cM_work 137 = .ok (.aload_n 0, 1) := by decide +kernel
theorem dM_work_138 : decode cM_work 138 = .ok (.iconst 2, 1) := by decide +kernel
theorem dM_work_139 : decode cM_work 139 = .ok (.invokevirtual 101, 3) := by decide +kernel
theorem dM_work_142 : decode cM_work 142 = .ok (.ior, 1) := by decide +kernel
theorem dM_work_143 : decode cM_work 143 = .ok (.iastore, 1) := by decide +kernel
theorem dM_work_144 : decode cM_work 144 = .ok (.aload_n 0, 1) := by decide +kernel
theorem dM_work_145 : decode cM_work 145 = .ok (.getfield 13, 3) := by decide +kernel
theorem dM_work_148 : decode cM_work 148 = .ok (.iconst 0, 1) := by decide +kernel
theorem dM_work_149 : decode cM_work 149 = .ok (.iload_n 1, 1) := by decide +kernel
theorem dM_work_150 : decode cM_work 150 = .ok (.bipush 7, 2) := by decide +kernel
theorem dM_work_152 : decode cM_work 152 = .ok (.if_icmp .ne 7, 3) := by decide +kernel
theorem dM_work_155 : decode cM_work 155 = .ok (.iload_n 3, 1) := by decide +kernel
theorem dM_work_156 : decode cM_work 156 = .ok (.goto 5, 3) := by decide +kernel
theorem dM_work_159 : decode cM_work 159 = .ok (.iload 5, 2) := by decide +kernel
theorem dM_work_161 : decode cM_work 161 = .ok (.iastore, 1) := by decide +kernel
theorem dM_work_162 : decode cM_work 162 = .ok (.goto 71, 3) := by decide +kernel
theorem dM_work_165 : decode cM_work 165 = .ok (.aload_n 0, 1) := by decide +kernel
theorem dM_work_166 : decode cM_work 166 = .ok (.getfield 13, 3) := by decide +kernel
theorem dM_work_169 : decode cM_work 169 = .ok (.iconst 0, 1) := by decide +kernel
theorem dM_work_170 : decode cM_work 170 = .ok (.iload_n 1, 1) := by decide +kernel
theorem dM_work_171 : decode cM_work 171 = .ok (.iconst 4, 1) := by decide +kernel
theorem dM_work_172 : decode cM_work 172 = .ok (.if_icmp .ne 9, 3) := by decide +kernel
theorem dM_work_175 : decode cM_work 175 = .ok (.iload_n 3, 1) := by decide +kernel
theorem dM_work_176 : decode cM_work 176 = .ok (.iload_n 2, 1) := by decide +kernel
theorem dM_work_177 : decode cM_work 177 = .ok (.iand, 1) := by decide +kernel
theorem dM_work_178 : decode cM_work 178 = .ok (.goto 17, 3) := by decide +kernel
theorem dM_work_181 : decode cM_work 181 = .ok (.iload_n 1, 1) := by decide +kernel
theorem dM_work_182 : decode cM_work 182 = .ok (.iconst 5, 1) := by decide +kernel
theorem dM_work_183 : decode cM_work 183 = .ok (.if_icmp .ne 9, 3) := by decide +kernel
theorem dM_work_186 : decode cM_work 186 = .ok (.iload_n 3, 1) := by decide +kernel
theorem dM_work_187 : decode cM_work 187 = .ok (.iload_n 2, 1) := by decide +kernel
theorem dM_work_188 : decode cM_work 188 = .ok (.ixor, 1) := by decide +kernel
theorem dM_work_189 : decode cM_work 189 = .ok (.goto 6, 3) := by decide +kernel
theorem dM_work_192 : decode cM_work 192 = .ok (.iload_n 3, 1) := by decide +kernel
theorem dM_work_193 : decode cM_work 193 = .ok (.iload_n 2, 1) := by decide +kernel
theorem dM_work_194 : decode cM_work 194 = .ok (.ior, 1) := by decide +kernel
theorem dM_work_195 : decode cM_work 195 = .ok (.iastore, 1) := by decide +kernel
theorem dM_work_196 : decode cM_work 196 = .ok (.aload_n 0, 1) := by decide +kernel
theorem dM_work_197 : decode cM_work 197 = .ok (.getfield 13, 3) := by decide +kernel
theorem dM_work_200 : decode cM_work 200 = .ok (.iconst 1, 1) := by decide +kernel
theorem dM_work_201 : decode cM_work 201 = .ok (.aload_n 0, 1) := by decide +kernel
theorem dM_work_202 : decode cM_work 202 = .ok (.getfield 13, 3) := by decide +kernel
theorem dM_work_205 : decode cM_work 205 = .ok (.iconst 0, 1) := by decide +kernel
theorem dM_work_206 : decode cM_work 206 = .ok (.iaload, 1) := by decide +kernel
theorem dM_work_207 : decode cM_work 207 = .ok (.invokestatic 98, 3) := by decide +kernel
theorem dM_work_210 : decode cM_work 210 = .ok (.aload_n 0, 1) := by decide +kernel
theorem dM_work_211 : decode cM_work 211 = .ok (.getfield 13, 3) := by decide +kernel
theorem dM_work_214 : decode cM_work 214 = .ok (.iconst 0, 1) := by decide +kernel
theorem dM_work_215 : decode cM_work 215 = .ok (.iaload, 1) := by decide +kernel
theorem dM_work_216 : decode cM_work 216 = .ok (.invokestatic 107, 3) := by decide +kernel
theorem dM_work_219 : decode cM_work 219 = .ok (.ior, 1) := by decide +kernel
theorem dM_work_220 : decode cM_work 220 = .ok (.iload_n 1, 1) := by decide +kernel
theorem dM_work_221 : decode cM_work 221 = .ok (.iconst 4, 1) := by decide +kernel
theorem dM_work_222 : decode cM_work 222 = .ok (.if_icmp .ne 8, 3) := by decide +kernel
theorem dM_work_225 : decode cM_work 225 = .ok (.bipush 16, 2) := by decide +kernel
theorem dM_work_227 : decode cM_work 227 = .ok (.goto 4, 3) := by decide +kernel
theorem dM_work_230 : decode cM_work 230 = .ok (.iconst 0, 1) := by decide +kernel
theorem dM_work_231 : decode cM_work 231 = .ok (.ior, 1) := by decide +kernel
theorem dM_work_232 : decode cM_work 232 = .ok (.iastore, 1) := by decide +kernel
theorem dM_work_233 : decode cM_work 233 = .ok (.return_, 1) := by decide +kernel
theorem dM_step1_0 : decode cM_step1 0 = .ok (.aload_n 0, 1) := by decide +kernel
theorem dM_step1_1 : decode cM_step1 1 = .ok (.getfield 13, 3) := by decide +kernel
theorem dM_step1_4 : decode cM_step1 4 = .ok (.iconst 1, 1) := by decide +kernel
theorem dM_step1_5 : decode cM_step1 5 = .ok (.iaload, 1) := by decide +kernel
theorem dM_step1_6 : decode cM_step1 6 = .ok (.iconst 1, 1) := by decide +kernel
theorem dM_step1_7 : decode cM_step1 7 = .ok (.iand, 1) := by decide +kernel
theorem dM_step1_8 : decode cM_step1 8 = .ok (.istore_n 3, 1) := by decide +kernel
theorem dM_step1_9 : decode cM_step1 9 = .ok (.iload_n 2, 1) := by decide +kernel
theorem dM_step1_10 : decode cM_step1 10 = .ok (.ifCond .eq 15, 3) := by decide +kernel
theorem dM_step1_13 : decode cM_step1 13 = .ok (.aload_n 0, 1) := by decide +kernel
theorem dM_step1_14 : decode cM_step1 14 = .ok (.iload_n 1, 1) := by decide +kernel
theorem dM_step1_15 : decode cM_step1 15 = .ok (.iconst 1, 1) := by decide +kernel
theorem dM_step1_16 : decode cM_step1 16 = .ok (.iconst 0, 1) := by decide +kernel
theorem dM_step1_17 : decode cM_step1 17 = .ok (.bipush 8, 2) := by decide +kernel
theorem dM_step1_19 : decode cM_step1 19 = .ok (.invokevirtual 94, 3) := by decide +kernel
theorem dM_step1_22 : decode cM_step1 22 = .ok (.goto 12, 3) := by decide +kernel
theorem dM_step1_25 : decode cM_step1 25 = .ok (.aload_n 0, 1) := by decide +kernel
theorem dM_step1_26 : decode cM_step1 26 = .ok (.iload_n 1, 1) := by decide +kernel
theorem dM_step1_27 : decode cM_step1 27 = .ok (.iconst 1, 1) := by decide +kernel
theorem dM_step1_28 : decode cM_step1 28 = .ok (.iconst 0, 1) := by decide +kernel
theorem dM_step1_29 : decode cM_step1 29 = .ok (.bipush 8, 2) := by decide +kernel
theorem dM_step1_31 : decode cM_step1 31 = .ok (.invokevirtual 104, 3) := by decide +kernel
theorem dM_step1_34 : decode cM_step1 34 = .ok (.istore 4, 2) := by decide +kernel
theorem dM_step1_36 : decode cM_step1 36 = .ok (.aload_n 0, 1) := by decide +kernel
theorem dM_step1_37 : decode cM_step1 37 = .ok (.getfield 13, 3) := by decide +kernel
theorem dM_step1_40 : decode cM_step1 40 = .ok (.iconst 1, 1) := by decide +kernel
theorem dM_step1_41 : decode cM_step1 41 = .ok (.iload 4, 2) := by decide +kernel
theorem dM_step1_43 : decode cM_step1 43 = .ok (.invokestatic 98, 3) := by decide +kernel
theorem dM_step1_46 : decode cM_step1 46 = .ok (.aload_n 0, 1) := by decide +kernel
theorem dM_step1_47 : decode cM_step1 47 = .ok (.iload_n 2, 1) := by decide +kernel
theorem dM_step1_48 : decode cM_step1 48 = .ok (.ifCond .eq 7, 3) := by decide +kernel
theorem dM_step1_51 : decode cM_step1 51 = .ok (.iconst 0, 1) := by decide +kernel
theorem dM_step1_52 : decode cM_step1 52 = .ok (.goto 4, 3) := by decide +kernel
theorem dM_step1_55 : decode cM_step1 55 = .ok (.iconst 2, 1) := by decide +kernel
theorem dM_step1_56 : decode cM_step1 56 = .ok (.invokevirtual 101, 3) := by decide +kernel
theorem dM_step1_59 : decode cM_step1 59 = .ok (.bipush (-2), 2) := by decide +kernel
theorem dM_step1_61 : decode cM_step1 61 = .ok (.iand, 1) := by decide +kernel
theorem dM_step1_62 : decode cM_step1 62 = .ok (.ior, 1) := by decide +kernel
theorem dM_step1_63 : decode cM_step1 63 = .ok (.iload_n 3, 1) := by decide +kernel
theorem dM_step1_64 : decode cM_step1 64 = .ok (.ior, 1) := by decide +kernel
theorem dM_step1_65 : decode cM_step1 65 = .ok (.iastore, 1) := by decide +kernel
theorem dM_step1_66 : decode cM_step1 66 = .ok (.iload 4, 2) := by decide +kernel
theorem dM_step1_68 : decode cM_step1 68 = .ok (.ireturn, 1) := by decide +kernel
theorem dM_turn_0 : decode cM_turn 0 = .ok (.iload_n 1, 1) := by decide +kernel
theorem dM_turn_1 : decode cM_turn 1 = .ok (.ifCond .eq 19, 3) := by decide +kernel
theorem dM_turn_4 : decode cM_turn 4 = .ok (.iload_n 1, 1) := by decide +kernel
theorem dM_turn_5 : decode cM_turn 5 = .ok (.iconst 2, 1) := by decide +kernel
theorem dM_turn_6 : decode cM_turn 6 = .ok (.if_icmp .eq 14, 3) := by decide +kernel
theorem dM_turn_9 : decode cM_turn 9 = .ok (.iload_n 1, 1) := by decide +kernel
theorem dM_turn_10 : decode cM_turn 10 = .ok (.iconst 4, 1) := by decide +kernel
theorem dM_turn_11 : decode cM_turn 11 = .ok (.if_icmp .eq 9, 3) := by decide +kernel
theorem dM_turn_14 : decode cM_turn 14 = .ok (.iload_n 1, 1) := by decide +kernel
theorem dM_turn_15 : decode cM_turn 15 = .ok (.bipush 6, 2) := by decide +kernel
theorem dM_turn_17 : decode cM_turn 17 = .ok (.if_icmp .ne 7, 3) := by decide +kernel
theorem dM_turn_20 : decode cM_turn 20 = .ok (.iconst 1, 1) := by decide +kernel
theorem dM_turn_21 : decode cM_turn 21 = .ok (.goto 4, 3) := by decide +kernel
theorem dM_turn_24 : decode cM_turn 24 = .ok (.iconst 0, 1) := by decide +kernel
theorem dM_turn_25 : decode cM_turn 25 = .ok (.istore_n 3, 1) := by decide +kernel
theorem dM_turn_26 : decode cM_turn 26 = .ok (.aload_n 0, 1) := by decide +kernel
theorem dM_turn_27 : decode cM_turn 27 = .ok (.getfield 13, 3) := by decide +kernel
theorem dM_turn_30 : decode cM_turn 30 = .ok (.iconst 1, 1) := by decide +kernel
theorem dM_turn_31 : decode cM_turn 31 = .ok (.iaload, 1) := by decide +kernel
theorem dM_turn_32 : decode cM_turn 32 = .ok (.iconst 1, 1) := by decide +kernel
theorem dM_turn_33 : decode cM_turn 33 = .ok (.iand, 1) := by decide +kernel
theorem dM_turn_34 : decode cM_turn 34 = .ok (.istore 4, 2) := by decide +kernel
theorem dM_turn_36 : decode cM_turn 36 = .ok (.aload_n 0, 1) := by decide +kernel
theorem dM_turn_37 : decode cM_turn 37 = .ok (.iload_n 3, 1) := by decide +kernel
theorem dM_turn_38 : decode cM_turn 38 = .ok (.ifCond .eq 10, 3) := by decide +kernel
theorem dM_turn_41 : decode cM_turn 41 = .ok (.iload_n 2, 1) := by decide +kernel
theorem dM_turn_42 : decode cM_turn 42 = .ok (.bipush 7, 2) := by decide +kernel
theorem dM_turn_44 : decode cM_turn 44 = .ok (.ishr, 1) := by decide +kernel
theorem dM_turn_45 : decode cM_turn 45 = .ok (.goto 6, 3) := by decide +kernel
theorem dM_turn_48 : decode cM_turn 48 = .ok (.iload_n 2, 1) := by decide +kernel
theorem dM_turn_49 : decode cM_turn 49 = .ok (.iconst 1, 1) := by decide +kernel
theorem dM_turn_50 : decode cM_turn 50 = .ok (.iand, 1) := by decide +kernel
theorem dM_turn_51 : decode cM_turn 51 = .ok (.putfield 110, 3) := by decide +kernel
theorem dM_turn_54 : decode cM_turn 54 = .ok (.iload_n 3, 1) := by decide +kernel
theorem dM_turn_55 : decode cM_turn 55 = .ok (.ifCond .eq 44, 3) := by decide +kernel
theorem dM_turn_58 : decode cM_turn 58 = .ok (.iload_n 2, 1) := by decide +kernel
theorem dM_turn_59 : decode cM_turn 59 = .ok (.iconst 1, 1) := by decide +kernel
theorem dM_turn_60 : decode cM_turn 60 = .ok (.ishl, 1) := by decide +kernel
theorem dM_turn_61 : decode cM_turn 61 = .ok (.sipush 255, 3) := by decide +kernel
theorem dM_turn_64 : decode cM_turn 64 = .ok (.iand, 1) := by decide +kernel
theorem dM_turn_65 : decode cM_turn 65 = .ok (.iload_n 1, 1) := by decide +kernel
theorem dM_turn_66 : decode cM_turn 66 = .ok (.ifCond .ne 10, 3) := by decide +kernel
theorem dM_turn_69 : decode cM_turn 69 = .ok (.aload_n 0, 1) := by decide +kernel
theorem dM_turn_70 : decode cM_turn 70 = .ok (.getfield 110, 3) := by decide +kernel
theorem dM_turn_73 : decode cM_turn 73 = .ok (.goto 24, 3) := by decide +kernel
theorem dM_turn_76 : decode cM_turn 76 = .ok (.iload_n 1, 1) := by decide +kernel
theorem dM_turn_77 : decode cM_turn 77 = .ok (.iconst 2, 1) := by decide +kernel
theorem dM_turn_78 : decode cM_turn 78 = .ok (.if_icmp .ne 8, 3) := by decide +kernel
theorem dM_turn_81 : decode cM_turn 81 = .ok (.iload 4, 2) := by decide +kernel
theorem dM_turn_83 : decode cM_turn 83 = .ok (.goto 14, 3) := by decide +kernel
theorem dM_turn_86 : decode cM_turn 86 = .ok (.iload_n 1, 1) := by decide +kernel
theorem dM_turn_87 : decode cM_turn 87 = .ok (.bipush 6, 2) := by decide +kernel
theorem dM_turn_89 : decode cM_turn 89 = .ok (.if_icmp .ne 7, 3) := by decide +kernel
theorem dM_turn_92 : decode cM_turn 92 = .ok (.iconst 1, 1) := by decide +kernel
theorem dM_turn_93 : decode cM_turn 93 = .ok (.goto 4, 3) := by decide +kernel
theorem dM_turn_96 : decode cM_turn 96 = .ok (.iconst 0, 1) := by decide +kernel
theorem dM_turn_97 : decode cM_turn 97 = .ok (.ior, 1) := by decide +kernel
theorem dM_turn_98 : decode cM_turn 98 = .ok (.ireturn, 1) := by decide +kernel
theorem dM_turn_99 : decode cM_turn 99 = .ok (.iload_n 2, 1) := by decide +kernel
theorem dM_turn_100 : decode cM_turn 100 = .ok (.iconst 1, 1) := by decide +kernel
theorem dM_turn_101 : decode cM_turn 101 = .ok (.ishr, 1) := by decide +kernel
theorem dM_turn_102 : decode cM_turn 102 = .ok (.iload_n 1, 1) := by decide +kernel
theorem dM_turn_103 : decode cM_turn 103 = .ok (.iconst 1, 1) := by decide +kernel
theorem dM_turn_104 : decode cM_turn 104 = .ok (.if_icmp .ne 10, 3) := by decide +kernel
theorem dM_turn_107 : decode cM_turn 107 = .ok (.aload_n 0, 1) := by decide +kernel
theorem dM_turn_108 : decode cM_turn 108 = .ok (.getfield 110, 3) := by decide +kernel
theorem dM_turn_111 : decode cM_turn 111 = .ok (.goto 26, 3) := by decide +kernel
theorem dM_turn_114 : decode cM_turn 114 = .ok (.iload_n 1, 1) := by decide +kernel
theorem dM_turn_115 : decode cM_turn 115 = .ok (.iconst 3, 1) := by decide +kernel
theorem dM_turn_116 : decode cM_turn 116 = .ok (.if_icmp .ne 8, 3) := by decide +kernel
theorem dM_turn_119 : decode cM_turn 119 = .ok (.iload 4, 2) := by decide +kernel
theorem dM_turn_121 : decode cM_turn 121 = .ok (.goto 16, 3) := by decide +kernel
theorem dM_turn_124 : decode cM_turn 124 = .ok (.iload_n 1, 1) := by decide +kernel
theorem dM_turn_125 : decode cM_turn 125 = .ok (.iconst 5, 1) := by decide +kernel
theorem dM_turn_126 : decode cM_turn 126 = .ok (.if_icmp .ne 10, 3) := by decide +kernel
theorem dM_turn_129 : decode cM_turn 129 = .ok (.iload_n 2, 1) := by decide +kernel
theorem dM_turn_130 : decode cM_turn 130 = .ok (.bipush 7, 2) := by decide +kernel
theorem dM_turn_132 : decode cM_turn 132 = .ok (.ishr, 1) := by decide +kernel
theorem dM_turn_133 : decode cM_turn 133 = .ok (.goto 4, 3) := by decide +kernel
theorem dM_turn_136 : decode cM_turn 136 = .ok (.iconst 0, 1) := by decide +kernel
theorem dM_turn_137 : decode cM_turn 137 = .ok (.bipush 7, 2) := by decide +kernel
theorem dM_turn_139 : decode cM_turn 139 = .ok (.ishl, 1) := by decide +kernel
theorem dM_turn_140 : decode cM_turn 140 = .ok (.ior, 1) := by decide +kernel
theorem dM_turn_141 : decode cM_turn 141 = .ok (.ireturn, 1) := by decide +kernel
theorem dM_turned_0 : decode cM_turned 0 = .ok (.aload_n 0, 1) := by decide +kernel
theorem dM_turned_1 : decode cM_turned 1 = .ok (.iload_n 1, 1) := by decide +kernel
theorem dM_turned_2 : decode cM_turned 2 = .ok (.iload_n 2, 1) := by decide +kernel
theorem dM_turned_3 : decode cM_turned 3 = .ok (.invokevirtual 113, 3) := by decide +kernel
theorem dM_turned_6 : decode cM_turned 6 = .ok (.istore_n 3, 1) := by decide +kernel
theorem dM_turned_7 : decode cM_turned 7 = .ok (.aload_n 0, 1) := by decide +kernel
theorem dM_turned_8 : decode cM_turned 8 = .ok (.getfield 13, 3) := by decide +kernel
theorem dM_turned_11 : decode cM_turned 11 = .ok (.iconst 1, 1) := by decide +kernel
theorem dM_turned_12 : decode cM_turned 12 = .ok (.iload_n 3, 1) := by decide +kernel
theorem dM_turned_13 : decode cM_turned 13 = .ok (.invokestatic 98, 3) := by decide +kernel
theorem dM_turned_16 : decode cM_turned 16 = .ok (.iload_n 3, 1) := by decide +kernel
theorem dM_turned_17 : decode cM_turned 17 = .ok (.invokestatic 107, 3) := by decide +kernel
theorem dM_turned_20 : decode cM_turned 20 = .ok (.ior, 1) := by decide +kernel
theorem dM_turned_21 : decode cM_turned 21 = .ok (.aload_n 0, 1) := by decide +kernel
theorem dM_turned_22 : decode cM_turned 22 = .ok (.getfield 110, 3) := by decide +kernel
theorem dM_turned_25 : decode cM_turned 25 = .ok (.ior, 1) := by decide +kernel
theorem dM_turned_26 : decode cM_turned 26 = .ok (.iastore, 1) := by decide +kernel
theorem dM_turned_27 : decode cM_turned 27 = .ok (.iload_n 3, 1) := by decide +kernel
theorem dM_turned_28 : decode cM_turned 28 = .ok (.ireturn, 1) := by decide +kernel
theorem dM_bit_0 : decode cM_bit 0 = .ok (.iload_n 2, 1) := by decide +kernel
theorem dM_bit_1 : decode cM_bit 1 = .ok (.iload_n 1, 1) := by decide +kernel
theorem dM_bit_2 : decode cM_bit 2 = .ok (.ishr, 1) := by decide +kernel
theorem dM_bit_3 : decode cM_bit 3 = .ok (.iconst 1, 1) := by decide +kernel
theorem dM_bit_4 : decode cM_bit 4 = .ok (.iand, 1) := by decide +kernel
theorem dM_bit_5 : decode cM_bit 5 = .ok (.iconst 1, 1) := by decide +kernel
theorem dM_bit_6 : decode cM_bit 6 = .ok (.if_icmp .ne 7, 3) := by decide +kernel
theorem dM_bit_9 : decode cM_bit 9 = .ok (.iconst 1, 1) := by decide +kernel
theorem dM_bit_10 : decode cM_bit 10 = .ok (.goto 4, 3) := by decide +kernel
theorem dM_bit_13 : decode cM_bit 13 = .ok (.iconst 0, 1) := by decide +kernel
theorem dM_bit_14 : decode cM_bit 14 = .ok (.istore_n 3, 1) := by decide +kernel
theorem dM_bit_15 : decode cM_bit 15 = .ok (.aload_n 0, 1) := by decide +kernel
theorem dM_bit_16 : decode cM_bit 16 = .ok (.getfield 13, 3) := by decide +kernel
theorem dM_bit_19 : decode cM_bit 19 = .ok (.iconst 1, 1) := by decide +kernel
theorem dM_bit_20 : decode cM_bit 20 = .ok (.aload_n 0, 1) := by decide +kernel
theorem dM_bit_21 : decode cM_bit 21 = .ok (.getfield 13, 3) := by decide +kernel
theorem dM_bit_24 : decode cM_bit 24 = .ok (.iconst 1, 1) := by decide +kernel
theorem dM_bit_25 : decode cM_bit 25 = .ok (.iaload, 1) := by decide +kernel
theorem dM_bit_26 : decode cM_bit 26 = .ok (.iconst 1, 1) := by decide +kernel
theorem dM_bit_27 : decode cM_bit 27 = .ok (.iand, 1) := by decide +kernel
theorem dM_bit_28 : decode cM_bit 28 = .ok (.bipush 16, 2) := by decide +kernel
theorem dM_bit_30 : decode cM_bit 30 = .ok (.ior, 1) := by decide +kernel
theorem dM_bit_31 : decode cM_bit 31 = .ok (.iload_n 2, 1) := by decide +kernel
theorem dM_bit_32 : decode cM_bit 32 = .ok (.bipush 40, 2) := by decide +kernel
theorem dM_bit_34 : decode cM_bit 34 = .ok (.iand, 1) := by decide +kernel
theorem dM_bit_35 : decode cM_bit 35 = .ok (.ior, 1) := by decide +kernel
theorem dM_bit_36 : decode cM_bit 36 = .ok (.iload_n 3, 1) := by decide +kernel
theorem dM_bit_37 : decode cM_bit 37 = .ok (.ifCond .eq 7, 3) := by decide +kernel
theorem dM_bit_40 : decode cM_bit 40 = .ok (.iconst 0, 1) := by decide +kernel
theorem dM_bit_41 : decode cM_bit 41 = .ok (.goto 5, 3) := by decide +kernel
theorem dM_bit_44 : decode cM_bit 44 = .ok (.bipush 68, 2) := by decide +kernel
theorem dM_bit_46 : decode cM_bit 46 = .ok (.ior, 1) := by decide +kernel
theorem dM_bit_47 : decode cM_bit 47 = .ok (.iload_n 3, 1) := by decide +kernel
theorem dM_bit_48 : decode cM_bit 48 = .ok (.ifCond .eq 15, 3) := by decide +kernel
theorem dM_bit_51 : decode cM_bit 51 = .ok (.iload_n 1, 1) := by decide +kernel
theorem dM_bit_52 : decode cM_bit 52 = .ok (.bipush 7, 2) := by decide +kernel
theorem dM_bit_54 : decode cM_bit 54 = .ok (.if_icmp .ne 9, 3) := by decide +kernel
theorem dM_bit_57 : decode cM_bit 57 = .ok (.sipush 128, 3) := by decide +kernel
theorem dM_bit_60 : decode cM_bit 60 = .ok (.goto 4, 3) := by decide +kernel
theorem dM_bit_63 : decode cM_bit 63 = .ok (.iconst 0, 1) := by decide +kernel
theorem dM_bit_64 : decode cM_bit 64 = .ok (.ior, 1) := by decide +kernel
theorem dM_bit_65 : decode cM_bit 65 = .ok (.iastore, 1) := by decide +kernel
theorem dM_bit_66 : decode cM_bit 66 = .ok (.return_, 1) := by decide +kernel
theorem dM_adjust_0 : decode cM_adjust 0 = .ok (.aload_n 0, 1) := by decide +kernel
theorem dM_adjust_1 : decode cM_adjust 1 = .ok (.getfield 13, 3) := by decide +kernel
theorem dM_adjust_4 : decode cM_adjust 4 = .ok (.iconst 0, 1) := by decide +kernel
theorem dM_adjust_5 : decode cM_adjust 5 = .ok (.iaload, 1) := by decide +kernel
theorem dM_adjust_6 : decode cM_adjust 6 = .ok (.istore_n 1, 1) := by decide +kernel
theorem dM_adjust_7 : decode cM_adjust 7 = .ok (.aload_n 0, 1) := by decide +kernel
theorem dM_adjust_8 : decode cM_adjust 8 = .ok (.getfield 13, 3) := by decide +kernel
theorem dM_adjust_11 : decode cM_adjust 11 = .ok (.iconst 1, 1) := by decide +kernel
theorem dM_adjust_12 : decode cM_adjust 12 = .ok (.iaload, 1) := by decide +kernel
theorem dM_adjust_13 : decode cM_adjust 13 = .ok (.istore_n 2, 1) := by decide +kernel
theorem dM_adjust_14 : decode cM_adjust 14 = .ok (.iload_n 2, 1) := by decide +kernel
theorem dM_adjust_15 : decode cM_adjust 15 = .ok (.bipush 16, 2) := by decide +kernel
theorem dM_adjust_17 : decode cM_adjust 17 = .ok (.iand, 1) := by decide +kernel
theorem dM_adjust_18 : decode cM_adjust 18 = .ok (.ifCond .ne 12, 3) := by decide +kernel
theorem dM_adjust_21 : decode cM_adjust 21 = .ok (.iload_n 1, 1) := by decide +kernel
theorem dM_adjust_22 : decode cM_adjust 22 = .ok (.bipush 15, 2) := by decide +kernel
theorem dM_adjust_24 : decode cM_adjust 24 = .ok (.iand, 1) := by decide +kernel
theorem dM_adjust_25 : decode cM_adjust 25 = .ok (.bipush 9, 2) := by decide +kernel
theorem dM_adjust_27 : decode cM_adjust 27 = .ok (.if_icmp .le 8, 3) := by decide +kernel
theorem dM_adjust_30 : decode cM_adjust 30 = .ok (.bipush 6, 2) := by decide +kernel
theorem dM_adjust_32 : decode cM_adjust 32 = .ok (.goto 4, 3) := by decide +kernel
theorem dM_adjust_35 : decode cM_adjust 35 = .ok (.iconst 0, 1) := by decide +kernel
theorem dM_adjust_36 : decode cM_adjust 36 = .ok (.istore_n 3, 1) := by decide +kernel
theorem dM_adjust_37 : decode cM_adjust 37 = .ok (.iload_n 2, 1) := by decide +kernel
theorem dM_adjust_38 : decode cM_adjust 38 = .ok (.iconst 1, 1) := by decide +kernel
theorem dM_adjust_39 : decode cM_adjust 39 = .ok (.iand, 1) := by decide +kernel
theorem dM_adjust_40 : decode cM_adjust 40 = .ok (.ifCond .ne 10, 3) := by decide +kernel
theorem dM_adjust_43 : decode cM_adjust 43 = .ok (.iload_n 1, 1) := by decide +kernel
theorem dM_adjust_44 : decode cM_adjust 44 = .ok (.sipush 153, 3) := by decide +kernel
theorem dM_adjust_47 : decode cM_adjust 47 = .ok (.if_icmp .le 7, 3) := by decide +kernel
theorem dM_adjust_50 : decode cM_adjust 50 = .ok (.iconst 1, 1) := by decide +kernel
theorem dM_adjust_51 : decode cM_adjust 51 = .ok (.goto 4, 3) := by decide +kernel
theorem dM_adjust_54 : decode cM_adjust 54 = .ok (.iconst 0, 1) := by decide +kernel
theorem dM_adjust_55 : decode cM_adjust 55 = .ok (.istore 4, 2) := by decide +kernel
theorem dM_adjust_57 : decode cM_adjust 57 = .ok (.iload 4, 2) := by decide +kernel
theorem dM_adjust_59 : decode cM_adjust 59 = .ok (.ifCond .eq 10, 3) := by decide +kernel
theorem dM_adjust_62 : decode cM_adjust 62 = .ok (.iload_n 3, 1) := by decide +kernel
theorem dM_adjust_63 : decode cM_adjust 63 = .ok (.bipush 96, 2) := by decide +kernel
theorem dM_adjust_65 : decode cM_adjust 65 = .ok (.iadd, 1) := by decide +kernel
theorem dM_adjust_66 : decode cM_adjust 66 = .ok (.goto 4, 3) := by decide +kernel
theorem dM_adjust_69 : decode cM_adjust 69 = .ok (.iload_n 3, 1) := by decide +kernel
theorem dM_adjust_70 : decode cM_adjust 70 = .ok (.istore_n 3, 1) := by decide +kernel
