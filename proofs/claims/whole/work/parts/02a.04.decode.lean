theorem dX4_silence_0 : decode cX4_silence 0 = .ok (.iconst 0, 1) := by decide +kernel
theorem dX4_silence_1 : decode cX4_silence 1 = .ok (.istore_n 1, 1) := by decide +kernel
theorem dX4_silence_2 : decode cX4_silence 2 = .ok (.iload_n 1, 1) := by decide +kernel
theorem dX4_silence_3 : decode cX4_silence 3 = .ok (.iconst 3, 1) := by decide +kernel
theorem dX4_silence_4 : decode cX4_silence 4 = .ok (.if_icmp .ge 18, 3) := by decide +kernel
theorem dX4_silence_7 : decode cX4_silence 7 = .ok (.aload_n 0, 1) := by decide +kernel
theorem dX4_silence_8 : decode cX4_silence 8 = .ok (.getfield 11, 3) := by decide +kernel
theorem dX4_silence_11 : decode cX4_silence 11 = .ok (.iload_n 1, 1) := by decide +kernel
theorem dX4_silence_12 : decode cX4_silence 12 = .ok (.aaload, 1) := by decide +kernel
theorem dX4_silence_13 : decode cX4_silence 13 = .ok (.invokevirtual 18, 3) := by decide +kernel
theorem dX4_silence_16 : decode cX4_silence 16 = .ok (.iinc 1 1, 3) := by decide +kernel
theorem dX4_silence_19 : decode cX4_silence 19 = .ok (.goto (-17), 3) := by decide +kernel
theorem dX4_silence_22 : decode cX4_silence 22 = .ok (.return_, 1) := by decide +kernel
theorem dX4_playFrame_0 : decode cX4_playFrame 0 = .ok (.iconst 0, 1) := by decide +kernel
theorem dX4_playFrame_1 : decode cX4_playFrame 1 = .ok (.istore_n 2, 1) := by decide +kernel
theorem dX4_playFrame_2 : decode cX4_playFrame 2 = .ok (.iload_n 2, 1) := by decide +kernel
theorem dX4_playFrame_3 : decode cX4_playFrame 3 = .ok (.iconst 3, 1) := by decide +kernel
theorem dX4_playFrame_4 : decode cX4_playFrame 4 = .ok (.if_icmp .ge 18, 3) := by decide +kernel
theorem dX4_playFrame_7 : decode cX4_playFrame 7 = .ok (.aload_n 0, 1) := by decide +kernel
theorem dX4_playFrame_8 : decode cX4_playFrame 8 = .ok (.getfield 11, 3) := by decide +kernel
theorem dX4_playFrame_11 : decode cX4_playFrame 11 = .ok (.iload_n 2, 1) := by decide +kernel
theorem dX4_playFrame_12 : decode cX4_playFrame 12 = .ok (.aaload, 1) := by decide +kernel
theorem dX4_playFrame_13 : decode cX4_playFrame 13 = .ok (.invokevirtual 21, 3) := by decide +kernel
theorem dX4_playFrame_16 : decode cX4_playFrame 16 = .ok (.iinc 2 1, 3) := by decide +kernel
theorem dX4_playFrame_19 : decode cX4_playFrame 19 = .ok (.goto (-17), 3) := by decide +kernel
theorem dX4_playFrame_22 : decode cX4_playFrame 22 = .ok (.aload_n 1, 1) := by decide +kernel
theorem dX4_playFrame_23 : decode cX4_playFrame 23 = .ok (.getfield 24, 3) := by decide +kernel
theorem dX4_playFrame_26 : decode cX4_playFrame 26 = .ok (.ifCond .eq 16, 3) := by decide +kernel
theorem dX4_playFrame_29 : decode cX4_playFrame 29 = .ok (.aload_n 0, 1) := by decide +kernel
theorem dX4_playFrame_30 : decode cX4_playFrame 30 = .ok (.getfield 11, 3) := by decide +kernel
theorem dX4_playFrame_33 : decode cX4_playFrame 33 = .ok (.iconst 0, 1) := by decide +kernel
theorem dX4_playFrame_34 : decode cX4_playFrame 34 = .ok (.aaload, 1) := by decide +kernel
theorem dX4_playFrame_35 : decode cX4_playFrame 35 = .ok (.fconst 1, 1) := by decide +kernel
theorem dX4_playFrame_36 : decode cX4_playFrame 36 = .ok (.sipush 900, 3) := by decide +kernel
theorem dX4_playFrame_39 : decode cX4_playFrame 39 = .ok (.invokevirtual 30, 3) := by decide +kernel
theorem dX4_playFrame_42 : decode cX4_playFrame 42 = .ok (.aload_n 1, 1) := by decide +kernel
theorem dX4_playFrame_43 : decode cX4_playFrame 43 = .ok (.getfield 34, 3) := by decide +kernel
theorem dX4_playFrame_46 : decode cX4_playFrame 46 = .ok (.ifCond .eq 18, 3) := by decide +kernel
theorem dX4_playFrame_49 : decode cX4_playFrame 49 = .ok (.aload_n 0, 1) := by decide +kernel
theorem dX4_playFrame_50 : decode cX4_playFrame 50 = .ok (.getfield 11, 3) := by decide +kernel
theorem dX4_playFrame_53 : decode cX4_playFrame 53 = .ok (.iconst 1, 1) := by decide +kernel
theorem dX4_playFrame_54 : decode cX4_playFrame 54 = .ok (.aaload, 1) := by decide +kernel
theorem dX4_playFrame_55 : decode cX4_playFrame 55 = .ok (.ldc 37, 2) := by decide +kernel
theorem dX4_playFrame_57 : decode cX4_playFrame 57 = .ok (.aload_n 1, 1) := by decide +kernel
theorem dX4_playFrame_58 : decode cX4_playFrame 58 = .ok (.invokevirtual 38, 3) := by decide +kernel
theorem dX4_playFrame_61 : decode cX4_playFrame 61 = .ok (.invokevirtual 30, 3) := by decide +kernel
theorem dX4_playFrame_64 : decode cX4_playFrame 64 = .ok (.aload_n 1, 1) := by decide +kernel
theorem dX4_playFrame_65 : decode cX4_playFrame 65 = .ok (.getfield 42, 3) := by decide +kernel
theorem dX4_playFrame_68 : decode cX4_playFrame 68 = .ok (.ifCond .eq 17, 3) := by decide +kernel
theorem dX4_playFrame_71 : decode cX4_playFrame 71 = .ok (.aload_n 0, 1) := by decide +kernel
theorem dX4_playFrame_72 : decode cX4_playFrame 72 = .ok (.getfield 11, 3) := by decide +kernel
theorem dX4_playFrame_75 : decode cX4_playFrame 75 = .ok (.iconst 2, 1) := by decide +kernel
theorem dX4_playFrame_76 : decode cX4_playFrame 76 = .ok (.aaload, 1) := by decide +kernel
theorem dX4_playFrame_77 : decode cX4_playFrame 77 = .ok (.ldc 45, 2) := by decide +kernel
theorem dX4_playFrame_79 : decode cX4_playFrame 79 = .ok (.sipush 1500, 3) := by decide +kernel
theorem dX4_playFrame_82 : decode cX4_playFrame 82 = .ok (.invokevirtual 30, 3) := by decide +kernel
theorem dX4_playFrame_85 : decode cX4_playFrame 85 = .ok (.aload_n 1, 1) := by decide +kernel
theorem dX4_playFrame_86 : decode cX4_playFrame 86 = .ok (.getfield 46, 3) := by decide +kernel
theorem dX4_playFrame_89 : decode cX4_playFrame 89 = .ok (.ifCond .eq 16, 3) := by decide +kernel
theorem dX4_playFrame_92 : decode cX4_playFrame 92 = .ok (.aload_n 0, 1) := by decide +kernel
theorem dX4_playFrame_93 : decode cX4_playFrame 93 = .ok (.getfield 11, 3) := by decide +kernel
theorem dX4_playFrame_96 : decode cX4_playFrame 96 = .ok (.iconst 2, 1) := by decide +kernel
theorem dX4_playFrame_97 : decode cX4_playFrame 97 = .ok (.aaload, 1) := by decide +kernel
theorem dX4_playFrame_98 : decode cX4_playFrame 98 = .ok (.ldc 45, 2) := by decide +kernel
theorem dX4_playFrame_100 : decode cX4_playFrame 100 = .ok (.bipush 100, 2) := by decide +kernel
theorem dX4_playFrame_102 : decode cX4_playFrame 102 = .ok (.invokevirtual 30, 3) := by decide +kernel
theorem dX4_playFrame_105 : decode cX4_playFrame 105 = .ok (.return_, 1) := by decide +kernel
theorem dX5_init_0 : decode cX5_init 0 = .ok (.aload_n 0, 1) := by decide +kernel
theorem dX5_init_1 : decode cX5_init 1 = .ok (.invokespecial 1, 3) := by decide +kernel
theorem dX5_init_4 : decode cX5_init 4 = .ok (.return_, 1) := by decide +kernel
theorem dX5_passFrame_0 : decode cX5_passFrame 0 = .ok (.aload_n 0, 1) := by decide +kernel
theorem dX5_passFrame_1 : decode cX5_passFrame 1 = .ok (.aload_n 0, 1) := by decide +kernel
theorem dX5_passFrame_2 : decode cX5_passFrame 2 = .ok (.getfield 7, 3) := by decide +kernel
theorem dX5_passFrame_5 : decode cX5_passFrame 5 = .ok (.aload_n 0, 1) := by decide +kernel
theorem dX5_passFrame_6 : decode cX5_passFrame 6 = .ok (.getfield 13, 3) := by decide +kernel
theorem dX5_passFrame_9 : decode cX5_passFrame 9 = .ok (.iadd, 1) := by decide +kernel
theorem dX5_passFrame_10 : decode cX5_passFrame 10 = .ok (.i2s, 1) := by decide +kernel
theorem dX5_passFrame_11 : decode cX5_passFrame 11 = .ok (.putfield 7, 3) := by decide +kernel
theorem dX5_passFrame_14 : decode cX5_passFrame 14 = .ok (.aload_n 0, 1) := by decide +kernel
theorem dX5_passFrame_15 : decode cX5_passFrame 15 = .ok (.aload_n 0, 1) := by decide +kernel
theorem dX5_passFrame_16 : decode cX5_passFrame 16 = .ok (.getfield 17, 3) := by decide +kernel
theorem dX5_passFrame_19 : decode cX5_passFrame 19 = .ok (.ldc 21, 2) := by decide +kernel
theorem dX5_passFrame_21 : decode cX5_passFrame 21 = .ok (.fmul, 1) := by decide +kernel
theorem dX5_passFrame_22 : decode cX5_passFrame 22 = .ok (.putfield 17, 3) := by decide +kernel
theorem dX5_passFrame_25 : decode cX5_passFrame 25 = .ok (.return_, 1) := by decide +kernel
theorem dX5_ring_0 : decode cX5_ring 0 = .ok (.aload_n 0, 1) := by decide +kernel
theorem dX5_ring_1 : decode cX5_ring 1 = .ok (.fload_n 1, 1) := by decide +kernel
theorem dX5_ring_2 : decode cX5_ring 2 = .ok (.putfield 17, 3) := by decide +kernel
theorem dX5_ring_5 : decode cX5_ring 5 = .ok (.aload_n 0, 1) := by decide +kernel
theorem dX5_ring_6 : decode cX5_ring 6 = .ok (.iload_n 2, 1) := by decide +kernel
theorem dX5_ring_7 : decode cX5_ring 7 = .ok (.putfield 13, 3) := by decide +kernel
theorem dX5_ring_10 : decode cX5_ring 10 = .ok (.return_, 1) := by decide +kernel
theorem dX5_silence_0 : decode cX5_silence 0 = .ok (.aload_n 0, 1) := by decide +kernel
theorem dX5_silence_1 : decode cX5_silence 1 = .ok (.iconst 0, 1) := by decide +kernel
theorem dX5_silence_2 : decode cX5_silence 2 = .ok (.putfield 7, 3) := by decide +kernel
theorem dX5_silence_5 : decode cX5_silence 5 = .ok (.aload_n 0, 1) := by decide +kernel
theorem dX5_silence_6 : decode cX5_silence 6 = .ok (.fconst 0, 1) := by decide +kernel
theorem dX5_silence_7 : decode cX5_silence 7 = .ok (.iconst 0, 1) := by decide +kernel
theorem dX5_silence_8 : decode cX5_silence 8 = .ok (.invokevirtual 22, 3) := by decide +kernel
theorem dX5_silence_11 : decode cX5_silence 11 = .ok (.return_, 1) := by decide +kernel
theorem dX5_sample_0 : decode cX5_sample 0 = .ok (.aload_n 0, 1) := by decide +kernel
theorem dX5_sample_1 : decode cX5_sample 1 = .ok (.getfield 7, 3) := by decide +kernel
theorem dX5_sample_4 : decode cX5_sample 4 = .ok (.bipush 8, 2) := by decide +kernel
theorem dX5_sample_6 : decode cX5_sample 6 = .ok (.ishr, 1) := by decide +kernel
theorem dX5_sample_7 : decode cX5_sample 7 = .ok (.bipush 15, 2) := by decide +kernel
theorem dX5_sample_9 : decode cX5_sample 9 = .ok (.iand, 1) := by decide +kernel
theorem dX5_sample_10 : decode cX5_sample 10 = .ok (.i2f, 1) := by decide +kernel
theorem dX5_sample_11 : decode cX5_sample 11 = .ok (.ldc 26, 2) := by decide +kernel
theorem dX5_sample_13 : decode cX5_sample 13 = .ok (.fsub, 1) := by decide +kernel
theorem dX5_sample_14 : decode cX5_sample 14 = .ok (.aload_n 0, 1) := by decide +kernel
theorem dX5_sample_15 : decode cX5_sample 15 = .ok (.getfield 17, 3) := by decide +kernel
theorem dX5_sample_18 : decode cX5_sample 18 = .ok (.fmul, 1) := by decide +kernel
theorem dX5_sample_19 : decode cX5_sample 19 = .ok (.freturn, 1) := by decide +kernel
theorem dX6_init_0 : decode cX6_init 0 = .ok (.aload_n 0, 1) := by decide +kernel
theorem dX6_init_1 : decode cX6_init 1 = .ok (.invokespecial 1, 3) := by decide +kernel
theorem dX6_init_4 : decode cX6_init 4 = .ok (.aload_n 0, 1) := by decide +kernel
theorem dX6_init_5 : decode cX6_init 5 = .ok (.new 7, 3) := by decide +kernel
theorem dX6_init_8 : decode cX6_init 8 = .ok (.dup, 1) := by decide +kernel
theorem dX6_init_9 : decode cX6_init 9 = .ok (.invokespecial 9, 3) := by decide +kernel
theorem dX6_init_12 : decode cX6_init 12 = .ok (.putfield 10, 3) := by decide +kernel
theorem dX6_init_15 : decode cX6_init 15 = .ok (.aload_n 0, 1) := by decide +kernel
theorem dX6_init_16 : decode cX6_init 16 = .ok (.new 16, 3) := by decide +kernel
theorem dX6_init_19 : decode cX6_init 19 = .ok (.dup, 1) := by decide +kernel
theorem dX6_init_20 : decode cX6_init 20 = .ok (.invokespecial 18, 3) := by decide +kernel
theorem dX6_init_23 : decode cX6_init 23 = .ok (.putfield 19, 3) := by decide +kernel
theorem dX6_init_26 : decode cX6_init 26 = .ok (.aload_n 0, 1) := by decide +kernel
theorem dX6_init_27 : decode cX6_init 27 = .ok (.iconst (-1), 1) := by decide +kernel
theorem dX6_init_28 : decode cX6_init 28 = .ok (.putfield 23, 3) := by decide +kernel
theorem dX6_init_31 : decode cX6_init 31 = .ok (.return_, 1) := by decide +kernel
theorem dX6_coin_0 : decode cX6_coin 0 = .ok (.aload_n 0, 1) := by decide +kernel
theorem dX6_coin_1 : decode cX6_coin 1 = .ok (.getfield 27, 3) := by decide +kernel
theorem dX6_coin_4 : decode cX6_coin 4 = .ok (.bipush 9, 2) := by decide +kernel
theorem dX6_coin_6 : decode cX6_coin 6 = .ok (.if_icmp .lt 5, 3) := by decide +kernel
theorem dX6_coin_9 : decode cX6_coin 9 = .ok (.iconst 0, 1) := by decide +kernel
theorem dX6_coin_10 : decode cX6_coin 10 = .ok (.ireturn, 1) := by decide +kernel
theorem dX6_coin_11 : decode cX6_coin 11 = .ok (.aload_n 0, 1) := by decide +kernel
theorem dX6_coin_12 : decode cX6_coin 12 = .ok (.dup, 1) := by decide +kernel
theorem dX6_coin_13 : decode cX6_coin 13 = .ok (.getfield 27, 3) := by decide +kernel
theorem dX6_coin_16 : decode cX6_coin 16 = .ok (.iconst 1, 1) := by decide +kernel
theorem dX6_coin_17 : decode cX6_coin 17 = .ok (.iadd, 1) := by decide +kernel
theorem dX6_coin_18 : decode cX6_coin 18 = .ok (.putfield 27, 3) := by decide +kernel
theorem dX6_coin_21 : decode cX6_coin 21 = .ok (.iconst 1, 1) := by decide +kernel
theorem dX6_coin_22 : decode cX6_coin 22 = .ok (.ireturn, 1) := by decide +kernel
theorem dX6_start_0 : decode cX6_start 0 = .ok (.aload_n 0, 1) := by decide +kernel
theorem dX6_start_1 : decode cX6_start 1 = .ok (.getfield 27, 3) := by decide +kernel
theorem dX6_start_4 : decode cX6_start 4 = .ok (.ifCond .eq 13, 3) := by decide +kernel
theorem dX6_start_7 : decode cX6_start 7 = .ok (.aload_n 0, 1) := by decide +kernel
theorem dX6_start_8 : decode cX6_start 8 = .ok (.getfield 10, 3) := by decide +kernel
theorem dX6_start_11 : decode cX6_start 11 = .ok (.getfield 30, 3) := by decide +kernel
theorem dX6_start_14 : decode cX6_start 14 = .ok (.ifCond .eq 5, 3) := by decide +kernel
theorem dX6_start_17 : decode cX6_start 17 = .ok (.iconst 0, 1) := by decide +kernel
theorem dX6_start_18 : decode cX6_start 18 = .ok (.ireturn, 1) := by decide +kernel
theorem dX6_start_19 : decode cX6_start 19 = .ok (.aload_n 0, 1) := by decide +kernel
theorem dX6_start_20 : decode cX6_start 20 = .ok (.dup, 1) := by decide +kernel
theorem dX6_start_21 : decode cX6_start 21 = .ok (.getfield 27, 3) := by decide +kernel
theorem dX6_start_24 : decode cX6_start 24 = .ok (.iconst 1, 1) := by decide +kernel
theorem dX6_start_25 : decode cX6_start 25 = .ok (.isub, 1) := by decide +kernel
theorem dX6_start_26 : decode cX6_start 26 = .ok (.putfield 27, 3) := by decide +kernel
theorem dX6_start_29 : decode cX6_start 29 = .ok (.aload_n 0, 1) := by decide +kernel
theorem dX6_start_30 : decode cX6_start 30 = .ok (.getfield 10, 3) := by decide +kernel
theorem dX6_start_33 : decode cX6_start 33 = .ok (.invokevirtual 34, 3) := by decide +kernel
theorem dX6_start_36 : decode cX6_start 36 = .ok (.iconst 1, 1) := by decide +kernel
theorem dX6_start_37 : decode cX6_start 37 = .ok (.ireturn, 1) := by decide +kernel
theorem dX6_stick_0 : decode cX6_stick 0 = .ok (.iload_n 1, 1) := by decide +kernel
theorem dX6_stick_1 : decode cX6_stick 1 = .ok (.iconst (-1), 1) := by decide +kernel
theorem dX6_stick_2 : decode cX6_stick 2 = .ok (.if_icmp .lt 8, 3) := by decide +kernel
theorem dX6_stick_5 : decode cX6_stick 5 = .ok (.iload_n 1, 1) := by decide +kernel
theorem dX6_stick_6 : decode cX6_stick 6 = .ok (.iconst 4, 1) := by decide +kernel
theorem dX6_stick_7 : decode cX6_stick 7 = .ok (.if_icmp .lt 5, 3) := by decide +kernel
theorem dX6_stick_10 : decode cX6_stick 10 = .ok (.iconst 0, 1) := by decide +kernel
theorem dX6_stick_11 : decode cX6_stick 11 = .ok (.ireturn, 1) := by decide +kernel
theorem dX6_stick_12 : decode cX6_stick 12 = .ok (.aload_n 0, 1) := by decide +kernel
theorem dX6_stick_13 : decode cX6_stick 13 = .ok (.iload_n 1, 1) := by decide +kernel
theorem dX6_stick_14 : decode cX6_stick 14 = .ok (.putfield 23, 3) := by decide +kernel
theorem dX6_stick_17 : decode cX6_stick 17 = .ok (.iconst 1, 1) := by decide +kernel
theorem dX6_stick_18 : decode cX6_stick 18 = .ok (.ireturn, 1) := by decide +kernel
theorem dX6_kick_0 : decode cX6_kick 0 = .ok (.aload_n 0, 1) := by decide +kernel
theorem dX6_kick_1 : decode cX6_kick 1 = .ok (.iconst 0, 1) := by decide +kernel
theorem dX6_kick_2 : decode cX6_kick 2 = .ok (.putfield 37, 3) := by decide +kernel
theorem dX6_kick_5 : decode cX6_kick 5 = .ok (.return_, 1) := by decide +kernel
theorem dX6_frames_0 : decode cX6_frames 0 = .ok (.iload_n 1, 1) := by decide +kernel
theorem dX6_frames_1 : decode cX6_frames 1 = .ok (.iconst 1, 1) := by decide +kernel
theorem dX6_frames_2 : decode cX6_frames 2 = .ok (.if_icmp .lt 9, 3) := by decide +kernel
theorem dX6_frames_5 : decode cX6_frames 5 = .ok (.iload_n 1, 1) := by decide +kernel
theorem dX6_frames_6 : decode cX6_frames 6 = .ok (.bipush 60, 2) := by decide +kernel
theorem dX6_frames_8 : decode cX6_frames 8 = .ok (.if_icmp .le 5, 3) := by decide +kernel
theorem dX6_frames_11 : decode cX6_frames 11 = .ok (.iconst (-1), 1) := by decide +kernel
theorem dX6_frames_12 : decode cX6_frames 12 = .ok (.ireturn, 1) := by decide +kernel
theorem dX6_frames_13 : decode cX6_frames 13 = .ok (.iconst 0, 1) := by decide +kernel
theorem dX6_frames_14 : decode cX6_frames 14 = .ok (.istore_n 2, 1) := by decide +kernel
theorem dX6_frames_15 : decode cX6_frames 15 = .ok (.iload_n 2, 1) := by decide +kernel
theorem dX6_frames_16 : decode cX6_frames 16 = .ok (.iload_n 1, 1) := by decide +kernel
theorem dX6_frames_17 : decode cX6_frames 17 = .ok (.if_icmp .ge 64, 3) := by decide +kernel
theorem dX6_frames_20 : decode cX6_frames 20 = .ok (.aload_n 0, 1) := by decide +kernel
theorem dX6_frames_21 : decode cX6_frames 21 = .ok (.getfield 10, 3) := by decide +kernel
theorem dX6_frames_24 : decode cX6_frames 24 = .ok (.aload_n 0, 1) := by decide +kernel
theorem dX6_frames_25 : decode cX6_frames 25 = .ok (.getfield 23, 3) := by decide +kernel
theorem dX6_frames_28 : decode cX6_frames 28 = .ok (.invokevirtual 40, 3) := by decide +kernel
theorem dX6_frames_31 : decode cX6_frames 31 = .ok (.aload_n 0, 1) := by decide +kernel
theorem dX6_frames_32 : decode cX6_frames 32 = .ok (.getfield 19, 3) := by decide +kernel
theorem dX6_frames_35 : decode cX6_frames 35 = .ok (.aload_n 0, 1) := by decide +kernel
theorem dX6_frames_36 : decode cX6_frames 36 = .ok (.getfield 10, 3) := by decide +kernel
theorem dX6_frames_39 : decode cX6_frames 39 = .ok (.invokevirtual 44, 3) := by decide +kernel
theorem dX6_frames_42 : decode cX6_frames 42 = .ok (.aload_n 0, 1) := by decide +kernel
theorem dX6_frames_43 : decode cX6_frames 43 = .ok (.dup, 1) := by decide +kernel
theorem dX6_frames_44 : decode cX6_frames 44 = .ok (.getfield 47, 3) := by decide +kernel
theorem dX6_frames_47 : decode cX6_frames 47 = .ok (.iconst 1, 1) := by decide +kernel
theorem dX6_frames_48 : decode cX6_frames 48 = .ok (.iadd, 1) := by decide +kernel
theorem dX6_frames_49 : decode cX6_frames 49 = .ok (.putfield 47, 3) := by decide +kernel
theorem dX6_frames_52 : decode cX6_frames 52 = .ok (.aload_n 0, 1) := by decide +kernel
theorem dX6_frames_53 : decode cX6_frames 53 = .ok (.dup, 1) := by decide +kernel
theorem dX6_frames_54 : decode cX6_frames 54 = .ok (.getfield 37, 3) := by decide +kernel
theorem dX6_frames_57 : decode cX6_frames 57 = .ok (.iconst 1, 1) := by decide +kernel
theorem dX6_frames_58 : decode cX6_frames 58 = .ok (.iadd, 1) := by decide +kernel
theorem dX6_frames_59 : decode cX6_frames 59 = .ok (.putfield 37, 3) := by decide +kernel
theorem dX6_frames_62 : decode cX6_frames 62 = .ok (.aload_n 0, 1) := by decide +kernel
theorem dX6_frames_63 : decode cX6_frames 63 = .ok (.getfield 37, 3) := by decide +kernel
theorem dX6_frames_66 : decode cX6_frames 66 = .ok (.bipush 120, 2) := by decide +kernel
theorem dX6_frames_68 : decode cX6_frames 68 = .ok (.if_icmp .ne 7, 3) := by decide +kernel
theorem dX6_frames_71 : decode cX6_frames 71 = .ok (.aload_n 0, 1) := by decide +kernel
theorem dX6_frames_72 : decode cX6_frames 72 = .ok (.invokevirtual 50, 3) := by decide +kernel
theorem dX6_frames_75 : decode cX6_frames 75 = .ok (.iinc 2 1, 3) := by decide +kernel
theorem dX6_frames_78 : decode cX6_frames 78 = .ok (.goto (-63), 3) := by decide +kernel
theorem dX6_frames_81 : decode cX6_frames 81 = .ok (.iload_n 1, 1) := by decide +kernel
theorem dX6_frames_82 : decode cX6_frames 82 = .ok (.ireturn, 1) := by decide +kernel
theorem dX6_look_0 : decode cX6_look 0 = .ok (.iload_n 1, 1) := by decide +kernel
theorem dX6_look_1 : decode cX6_look 1 = .ok (.tableswitch 161 0 11 #[63, 79, 87, 95, 103, 111, 116, 127, 135, 143, 151, 156], 63) := by decide +kernel
theorem dX6_look_64 : decode cX6_look 64 = .ok (.aload_n 0, 1) := by decide +kernel
theorem dX6_look_65 : decode cX6_look 65 = .ok (.getfield 10, 3) := by decide +kernel
theorem dX6_look_68 : decode cX6_look 68 = .ok (.getfield 30, 3) := by decide +kernel
theorem dX6_look_71 : decode cX6_look 71 = .ok (.ifCond .eq 7, 3) := by decide +kernel
theorem dX6_look_74 : decode cX6_look 74 = .ok (.iconst 1, 1) := by decide +kernel
theorem dX6_look_75 : decode cX6_look 75 = .ok (.goto 4, 3) := by decide +kernel
theorem dX6_look_78 : decode cX6_look 78 = .ok (.iconst 0, 1) := by decide +kernel
theorem dX6_look_79 : decode cX6_look 79 = .ok (.ireturn, 1) := by decide +kernel
theorem dX6_look_80 : decode cX6_look 80 = .ok (.aload_n 0, 1) := by decide +kernel
theorem dX6_look_81 : decode cX6_look 81 = .ok (.getfield 10, 3) := by decide +kernel
theorem dX6_look_84 : decode cX6_look 84 = .ok (.getfield 53, 3) := by decide +kernel
theorem dX6_look_87 : decode cX6_look 87 = .ok (.ireturn, 1) := by decide +kernel
theorem dX6_look_88 : decode cX6_look 88 = .ok (.aload_n 0, 1) := by decide +kernel
theorem dX6_look_89 : decode cX6_look 89 = .ok (.getfield 10, 3) := by decide +kernel
theorem dX6_look_92 : decode cX6_look 92 = .ok (.getfield 56, 3) := by decide +kernel
theorem dX6_look_95 : decode cX6_look 95 = .ok (.ireturn, 1) := by decide +kernel
theorem dX6_look_96 : decode cX6_look 96 = .ok (.aload_n 0, 1) := by decide +kernel
theorem dX6_look_97 : decode cX6_look 97 = .ok (.getfield 10, 3) := by decide +kernel
theorem dX6_look_100 : decode cX6_look 100 = .ok (.getfield 59, 3) := by decide +kernel
theorem dX6_look_103 : decode cX6_look 103 = .ok (.ireturn, 1) := by decide +kernel
theorem dX6_look_104 : decode cX6_look 104 = .ok (.aload_n 0, 1) := by decide +kernel
theorem dX6_look_105 : decode cX6_look 105 = .ok (.getfield 10, 3) := by decide +kernel
theorem dX6_look_108 : decode cX6_look 108 = .ok (.getfield 62, 3) := by decide +kernel
theorem dX6_look_111 : decode cX6_look 111 = .ok (.ireturn, 1) := by decide +kernel
theorem dX6_look_112 : decode cX6_look 112 = .ok (.aload_n 0, 1) := by decide +kernel
theorem dX6_look_113 : decode cX6_look 113 = .ok (.getfield 27, 3) := by decide +kernel
theorem dX6_look_116 : decode cX6_look 116 = .ok (.ireturn, 1) := by decide +kernel
theorem dX6_look_117 : decode cX6_look 117 = .ok (.aload_n 0, 1) := by decide +kernel
theorem dX6_look_118 : decode cX6_look 118 = .ok (.getfield 10, 3) := by decide +kernel
theorem dX6_look_121 : decode cX6_look 121 = .ok (.getfield 65, 3) := by decide +kernel
theorem dX6_look_124 : decode cX6_look 124 = .ok (.getfield 69, 3) := by decide +kernel
theorem dX6_look_127 : decode cX6_look 127 = .ok (.ireturn, 1) := by decide +kernel
theorem dX6_look_128 : decode cX6_look 128 = .ok (.aload_n 0, 1) := by decide +kernel
theorem dX6_look_129 : decode cX6_look 129 = .ok (.getfield 10, 3) := by decide +kernel
theorem dX6_look_132 : decode cX6_look 132 = .ok (.getfield 74, 3) := by decide +kernel
theorem dX6_look_135 : decode cX6_look 135 = .ok (.ireturn, 1) := by decide +kernel
theorem dX6_look_136 : decode cX6_look 136 = .ok (.aload_n 0, 1) := by decide +kernel
theorem dX6_look_137 : decode cX6_look 137 = .ok (.getfield 10, 3) := by decide +kernel
theorem dX6_look_140 : decode cX6_look 140 = .ok (.getfield 77, 3) := by decide +kernel
theorem dX6_look_143 : decode cX6_look 143 = .ok (.ireturn, 1) := by decide +kernel
theorem dX6_look_144 : decode cX6_look 144 = .ok (.aload_n 0, 1) := by decide +kernel
theorem dX6_look_145 : decode cX6_look 145 = .ok (.getfield 10, 3) := by decide +kernel
theorem dX6_look_148 : decode cX6_look 148 = .ok (.getfield 80, 3) := by decide +kernel
theorem dX6_look_151 : decode cX6_look 151 = .ok (.ireturn, 1) := by decide +kernel
theorem dX6_look_152 : decode cX6_look 152 = .ok (.aload_n 0, 1) := by decide +kernel
theorem dX6_look_153 : decode cX6_look 153 = .ok (.getfield 37, 3) := by decide +kernel
theorem dX6_look_156 : decode cX6_look 156 = .ok (.ireturn, 1) := by decide +kernel
theorem dX6_look_157 : decode cX6_look 157 = .ok (.aload_n 0, 1) := by decide +kernel
theorem dX6_look_158 : decode cX6_look 158 = .ok (.getfield 47, 3) := by decide +kernel
theorem dX6_look_161 : decode cX6_look 161 = .ok (.ireturn, 1) := by decide +kernel
theorem dX6_look_162 : decode cX6_look 162 = .ok (.iconst (-1), 1) := by decide +kernel
theorem dX6_look_163 : decode cX6_look 163 = .ok (.ireturn, 1) := by decide +kernel
theorem dX6_actor_0 : decode cX6_actor 0 = .ok (.iload_n 1, 1) := by decide +kernel
theorem dX6_actor_1 : decode cX6_actor 1 = .ok (.ifCond .lt 8, 3) := by decide +kernel
theorem dX6_actor_4 : decode cX6_actor 4 = .ok (.iload_n 1, 1) := by decide +kernel
theorem dX6_actor_5 : decode cX6_actor 5 = .ok (.iconst 5, 1) := by decide +kernel
theorem dX6_actor_6 : decode cX6_actor 6 = .ok (.if_icmp .lt 5, 3) := by decide +kernel
theorem dX6_actor_9 : decode cX6_actor 9 = .ok (.iconst (-1), 1) := by decide +kernel
theorem dX6_actor_10 : decode cX6_actor 10 = .ok (.ireturn, 1) := by decide +kernel
theorem dX6_actor_11 : decode cX6_actor 11 = .ok (.aload_n 0, 1) := by decide +kernel
theorem dX6_actor_12 : decode cX6_actor 12 = .ok (.getfield 10, 3) := by decide +kernel
theorem dX6_actor_15 : decode cX6_actor 15 = .ok (.getfield 83, 3) := by decide +kernel
theorem dX6_actor_18 : decode cX6_actor 18 = .ok (.iload_n 1, 1) := by decide +kernel
theorem dX6_actor_19 : decode cX6_actor 19 = .ok (.aaload, 1) := by decide +kernel
theorem dX6_actor_20 : decode cX6_actor 20 = .ok (.astore_n 3, 1) := by decide +kernel
theorem dX6_actor_21 : decode cX6_actor 21 = .ok (.iload_n 2, 1) := by decide +kernel
theorem dX6_actor_22 : decode cX6_actor 22 = .ok (.tableswitch 84 0 5 #[38, 43, 48, 53, 66, 71], 38) := by decide +kernel
theorem dX6_actor_60 : decode cX6_actor 60 = .ok (.aload_n 3, 1) := by decide +kernel
theorem dX6_actor_61 : decode cX6_actor 61 = .ok (.getfield 87, 3) := by decide +kernel
theorem dX6_actor_64 : decode cX6_actor 64 = .ok (.ireturn, 1) := by decide +kernel
theorem dX6_actor_65 : decode cX6_actor 65 = .ok (.aload_n 3, 1) := by decide +kernel
theorem dX6_actor_66 : decode cX6_actor 66 = .ok (.getfield 92, 3) := by decide +kernel
theorem dX6_actor_69 : decode cX6_actor 69 = .ok (.ireturn, 1) := by decide +kernel
theorem dX6_actor_70 : decode cX6_actor 70 = .ok (.aload_n 3, 1) := by decide +kernel
theorem dX6_actor_71 : decode cX6_actor 71 = .ok (.getfield 95, 3) := by decide +kernel
theorem dX6_actor_74 : decode cX6_actor 74 = .ok (.ireturn, 1) := by decide +kernel
theorem dX6_actor_75 : decode cX6_actor 75 = .ok (.aload_n 3, 1) := by decide +kernel
theorem dX6_actor_76 : decode cX6_actor 76 = .ok (.getfield 98, 3) := by decide +kernel
theorem dX6_actor_79 : decode cX6_actor 79 = .ok (.ifCond .eq 7, 3) := by decide +kernel
theorem dX6_actor_82 : decode cX6_actor 82 = .ok (.iconst 1, 1) := by decide +kernel
theorem dX6_actor_83 : decode cX6_actor 83 = .ok (.goto 4, 3) := by decide +kernel
theorem dX6_actor_86 : decode cX6_actor 86 = .ok (.iconst 0, 1) := by decide +kernel
theorem dX6_actor_87 : decode cX6_actor 87 = .ok (.ireturn, 1) := by decide +kernel
theorem dX6_actor_88 : decode cX6_actor 88 = .ok (.aload_n 3, 1) := by decide +kernel
theorem dX6_actor_89 : decode cX6_actor 89 = .ok (.getfield 101, 3) := by decide +kernel
theorem dX6_actor_92 : decode cX6_actor 92 = .ok (.ireturn, 1) := by decide +kernel
theorem dX6_actor_93 : decode cX6_actor 93 = .ok (.aload_n 3, 1) := by decide +kernel
theorem dX6_actor_94 : decode cX6_actor 94 = .ok (.getfield 104, 3) := by decide +kernel
theorem dX6_actor_97 : decode cX6_actor 97 = .ok (.ifCond .eq 7, 3) := by decide +kernel
theorem dX6_actor_100 : decode cX6_actor 100 = .ok (.iconst 1, 1) := by decide +kernel
theorem dX6_actor_101 : decode cX6_actor 101 = .ok (.goto 4, 3) := by decide +kernel
theorem dX6_actor_104 : decode cX6_actor 104 = .ok (.iconst 0, 1) := by decide +kernel
theorem dX6_actor_105 : decode cX6_actor 105 = .ok (.ireturn, 1) := by decide +kernel
theorem dX6_actor_106 : decode cX6_actor 106 = .ok (.iconst (-1), 1) := by decide +kernel
theorem dX6_actor_107 : decode cX6_actor 107 = .ok (.ireturn, 1) := by decide +kernel
theorem dX6_progress_0 : decode cX6_progress 0 = .ok (.iload_n 1, 1) := by decide +kernel
theorem dX6_progress_1 : decode cX6_progress 1 = .ok (.ifCond .lt 8, 3) := by decide +kernel
theorem dX6_progress_4 : decode cX6_progress 4 = .ok (.iload_n 1, 1) := by decide +kernel
theorem dX6_progress_5 : decode cX6_progress 5 = .ok (.iconst 5, 1) := by decide +kernel
theorem dX6_progress_6 : decode cX6_progress 6 = .ok (.if_icmp .lt 7, 3) := by decide +kernel
theorem dX6_progress_9 : decode cX6_progress 9 = .ok (.fconst 0, 1) := by decide +kernel
theorem dX6_progress_10 : decode cX6_progress 10 = .ok (.goto 15, 3) := by decide +kernel
theorem dX6_progress_13 : decode cX6_progress 13 = .ok (.aload_n 0, 1) := by decide +kernel
theorem dX6_progress_14 : decode cX6_progress 14 = .ok (.getfield 10, 3) := by decide +kernel
theorem dX6_progress_17 : decode cX6_progress 17 = .ok (.getfield 83, 3) := by decide +kernel
theorem dX6_progress_20 : decode cX6_progress 20 = .ok (.iload_n 1, 1) := by decide +kernel
theorem dX6_progress_21 : decode cX6_progress 21 = .ok (.aaload, 1) := by decide +kernel
theorem dX6_progress_22 : decode cX6_progress 22 = .ok (.getfield 107, 3) := by decide +kernel
theorem dX6_progress_25 : decode cX6_progress 25 = .ok (.freturn, 1) := by decide +kernel
theorem dX6_cell_0 : decode cX6_cell 0 = .ok (.aload_n 0, 1) := by decide +kernel
theorem dX6_cell_1 : decode cX6_cell 1 = .ok (.getfield 10, 3) := by decide +kernel
theorem dX6_cell_4 : decode cX6_cell 4 = .ok (.getfield 65, 3) := by decide +kernel
theorem dX6_cell_7 : decode cX6_cell 7 = .ok (.iload_n 1, 1) := by decide +kernel
theorem dX6_cell_8 : decode cX6_cell 8 = .ok (.iload_n 2, 1) := by decide +kernel
theorem dX6_cell_9 : decode cX6_cell 9 = .ok (.invokevirtual 111, 3) := by decide +kernel
theorem dX6_cell_12 : decode cX6_cell 12 = .ok (.ireturn, 1) := by decide +kernel
theorem dX6_point_0 : decode cX6_point 0 = .ok (.iload_n 1, 1) := by decide +kernel
theorem dX6_point_1 : decode cX6_point 1 = .ok (.ifCond .lt 19, 3) := by decide +kernel
theorem dX6_point_4 : decode cX6_point 4 = .ok (.iload_n 1, 1) := by decide +kernel
theorem dX6_point_5 : decode cX6_point 5 = .ok (.bipush 52, 2) := by decide +kernel
theorem dX6_point_7 : decode cX6_point 7 = .ok (.if_icmp .ge 13, 3) := by decide +kernel
theorem dX6_point_10 : decode cX6_point 10 = .ok (.iload_n 2, 1) := by decide +kernel
theorem dX6_point_11 : decode cX6_point 11 = .ok (.ifCond .lt 9, 3) := by decide +kernel
theorem dX6_point_14 : decode cX6_point 14 = .ok (.iload_n 2, 1) := by decide +kernel
theorem dX6_point_15 : decode cX6_point 15 = .ok (.bipush 36, 2) := by decide +kernel
theorem dX6_point_17 : decode cX6_point 17 = .ok (.if_icmp .lt 5, 3) := by decide +kernel
theorem dX6_point_20 : decode cX6_point 20 = .ok (.iconst (-1), 1) := by decide +kernel
theorem dX6_point_21 : decode cX6_point 21 = .ok (.ireturn, 1) := by decide +kernel
theorem dX6_point_22 : decode cX6_point 22 = .ok (.aload_n 0, 1) := by decide +kernel
theorem dX6_point_23 : decode cX6_point 23 = .ok (.getfield 10, 3) := by decide +kernel
theorem dX6_point_26 : decode cX6_point 26 = .ok (.getfield 30, 3) := by decide +kernel
theorem dX6_point_29 : decode cX6_point 29 = .ok (.ifCond .eq 52, 3) := by decide +kernel
theorem dX6_point_32 : decode cX6_point 32 = .ok (.iconst 0, 1) := by decide +kernel
theorem dX6_point_33 : decode cX6_point 33 = .ok (.istore_n 3, 1) := by decide +kernel
theorem dX6_point_34 : decode cX6_point 34 = .ok (.iload_n 3, 1) := by decide +kernel
theorem dX6_point_35 : decode cX6_point 35 = .ok (.iconst 5, 1) := by decide +kernel
theorem dX6_point_36 : decode cX6_point 36 = .ok (.if_icmp .ge 45, 3) := by decide +kernel
theorem dX6_point_39 : decode cX6_point 39 = .ok (.aload_n 0, 1) := by decide +kernel
theorem dX6_point_40 : decode cX6_point 40 = .ok (.getfield 10, 3) := by decide +kernel
theorem dX6_point_43 : decode cX6_point 43 = .ok (.getfield 83, 3) := by decide +kernel
theorem dX6_point_46 : decode cX6_point 46 = .ok (.iload_n 3, 1) := by decide +kernel
theorem dX6_point_47 : decode cX6_point 47 = .ok (.aaload, 1) := by decide +kernel
theorem dX6_point_48 : decode cX6_point 48 = .ok (.iload_n 3, 1) := by decide +kernel
theorem dX6_point_49 : decode cX6_point 49 = .ok (.iload_n 1, 1) := by decide +kernel
theorem dX6_point_50 : decode cX6_point 50 = .ok (.iload_n 2, 1) := by decide +kernel
theorem dX6_point_51 : decode cX6_point 51 = .ok (.aload_n 0, 1) := by decide +kernel
theorem dX6_point_52 : decode cX6_point 52 = .ok (.getfield 47, 3) := by decide +kernel
theorem dX6_point_55 : decode cX6_point 55 = .ok (.invokestatic 117, 3) := by decide +kernel
theorem dX6_point_58 : decode cX6_point 58 = .ok (.ifCond .eq 17, 3) := by decide +kernel
theorem dX6_point_61 : decode cX6_point 61 = .ok (.aload_n 0, 1) := by decide +kernel
theorem dX6_point_62 : decode cX6_point 62 = .ok (.getfield 10, 3) := by decide +kernel
theorem dX6_point_65 : decode cX6_point 65 = .ok (.getfield 83, 3) := by decide +kernel
theorem dX6_point_68 : decode cX6_point 68 = .ok (.iload_n 3, 1) := by decide +kernel
theorem dX6_point_69 : decode cX6_point 69 = .ok (.aaload, 1) := by decide +kernel
theorem dX6_point_70 : decode cX6_point 70 = .ok (.iload_n 3, 1) := by decide +kernel
theorem dX6_point_71 : decode cX6_point 71 = .ok (.invokestatic 121, 3) := by decide +kernel
theorem dX6_point_74 : decode cX6_point 74 = .ok (.ireturn, 1) := by decide +kernel
theorem dX6_point_75 : decode cX6_point 75 = .ok (.iinc 3 1, 3) := by decide +kernel
theorem dX6_point_78 : decode cX6_point 78 = .ok (.goto (-44), 3) := by decide +kernel
theorem dX6_point_81 : decode cX6_point 81 = .ok (.aload_n 0, 1) := by decide +kernel
theorem dX6_point_82 : decode cX6_point 82 = .ok (.getfield 10, 3) := by decide +kernel
theorem dX6_point_85 : decode cX6_point 85 = .ok (.getfield 65, 3) := by decide +kernel
theorem dX6_point_88 : decode cX6_point 88 = .ok (.iload_n 1, 1) := by decide +kernel
theorem dX6_point_89 : decode cX6_point 89 = .ok (.iload_n 2, 1) := by decide +kernel
theorem dX6_point_90 : decode cX6_point 90 = .ok (.aload_n 0, 1) := by decide +kernel
theorem dX6_point_91 : decode cX6_point 91 = .ok (.getfield 47, 3) := by decide +kernel
theorem dX6_point_94 : decode cX6_point 94 = .ok (.invokestatic 125, 3) := by decide +kernel
theorem dX6_point_97 : decode cX6_point 97 = .ok (.ireturn, 1) := by decide +kernel
theorem dX6_volume_0 : decode cX6_volume 0 = .ok (.iload_n 1, 1) := by decide +kernel
theorem dX6_volume_1 : decode cX6_volume 1 = .ok (.ifCond .lt 8, 3) := by decide +kernel
theorem dX6_volume_4 : decode cX6_volume 4 = .ok (.iload_n 1, 1) := by decide +kernel
theorem dX6_volume_5 : decode cX6_volume 5 = .ok (.iconst 3, 1) := by decide +kernel
theorem dX6_volume_6 : decode cX6_volume 6 = .ok (.if_icmp .lt 7, 3) := by decide +kernel
theorem dX6_volume_9 : decode cX6_volume 9 = .ok (.fconst 0, 1) := by decide +kernel
theorem dX6_volume_10 : decode cX6_volume 10 = .ok (.goto 15, 3) := by decide +kernel
theorem dX6_volume_13 : decode cX6_volume 13 = .ok (.aload_n 0, 1) := by decide +kernel
theorem dX6_volume_14 : decode cX6_volume 14 = .ok (.getfield 19, 3) := by decide +kernel
theorem dX6_volume_17 : decode cX6_volume 17 = .ok (.getfield 129, 3) := by decide +kernel
theorem dX6_volume_20 : decode cX6_volume 20 = .ok (.iload_n 1, 1) := by decide +kernel
theorem dX6_volume_21 : decode cX6_volume 21 = .ok (.aaload, 1) := by decide +kernel
theorem dX6_volume_22 : decode cX6_volume 22 = .ok (.getfield 133, 3) := by decide +kernel
theorem dX6_volume_25 : decode cX6_volume 25 = .ok (.freturn, 1) := by decide +kernel
theorem dX6_sound_0 : decode cX6_sound 0 = .ok (.fconst 0, 1) := by decide +kernel
theorem dX6_sound_1 : decode cX6_sound 1 = .ok (.fstore_n 1, 1) := by decide +kernel
theorem dX6_sound_2 : decode cX6_sound 2 = .ok (.iconst 0, 1) := by decide +kernel
theorem dX6_sound_3 : decode cX6_sound 3 = .ok (.istore_n 2, 1) := by decide +kernel
theorem dX6_sound_4 : decode cX6_sound 4 = .ok (.iload_n 2, 1) := by decide +kernel
theorem dX6_sound_5 : decode cX6_sound 5 = .ok (.iconst 3, 1) := by decide +kernel
theorem dX6_sound_6 : decode cX6_sound 6 = .ok (.if_icmp .ge 24, 3) := by decide +kernel
theorem dX6_sound_9 : decode cX6_sound 9 = .ok (.fload_n 1, 1) := by decide +kernel
theorem dX6_sound_10 : decode cX6_sound 10 = .ok (.aload_n 0, 1) := by decide +kernel
theorem dX6_sound_11 : decode cX6_sound 11 = .ok (.getfield 19, 3) := by decide +kernel
theorem dX6_sound_14 : decode cX6_sound 14 = .ok (.getfield 129, 3) := by decide +kernel
theorem dX6_sound_17 : decode cX6_sound 17 = .ok (.iload_n 2, 1) := by decide +kernel
theorem dX6_sound_18 : decode cX6_sound 18 = .ok (.aaload, 1) := by decide +kernel
theorem dX6_sound_19 : decode cX6_sound 19 = .ok (.invokevirtual 138, 3) := by decide +kernel
theorem dX6_sound_22 : decode cX6_sound 22 = .ok (.fadd, 1) := by decide +kernel
theorem dX6_sound_23 : decode cX6_sound 23 = .ok (.fstore_n 1, 1) := by decide +kernel
theorem dX6_sound_24 : decode cX6_sound 24 = .ok (.iinc 2 1, 3) := by decide +kernel
theorem dX6_sound_27 : decode cX6_sound 27 = .ok (.goto (-23), 3) := by decide +kernel
theorem dX6_sound_30 : decode cX6_sound 30 = .ok (.fload_n 1, 1) := by decide +kernel
theorem dX6_sound_31 : decode cX6_sound 31 = .ok (.freturn, 1) := by decide +kernel
