theorem dX7_left_0 : decode cX7_left 0 = .ok (.iconst 0, 1) := by decide +kernel
theorem dX7_left_1 : decode cX7_left 1 = .ok (.istore_n 1, 1) := by decide +kernel
theorem dX7_left_2 : decode cX7_left 2 = .ok (.iconst 0, 1) := by decide +kernel
theorem dX7_left_3 : decode cX7_left 3 = .ok (.istore_n 2, 1) := by decide +kernel
theorem dX7_left_4 : decode cX7_left 4 = .ok (.iload_n 2, 1) := by decide +kernel
theorem dX7_left_5 : decode cX7_left 5 = .ok (.bipush 117, 2) := by decide +kernel
theorem dX7_left_7 : decode cX7_left 7 = .ok (.if_icmp .ge 37, 3) := by decide +kernel
theorem dX7_left_10 : decode cX7_left 10 = .ok (.aload_n 0, 1) := by decide +kernel
theorem dX7_left_11 : decode cX7_left 11 = .ok (.getfield 13, 3) := by decide +kernel
theorem dX7_left_14 : decode cX7_left 14 = .ok (.iload_n 2, 1) := by decide +kernel
theorem dX7_left_15 : decode cX7_left 15 = .ok (.iaload, 1) := by decide +kernel
theorem dX7_left_16 : decode cX7_left 16 = .ok (.iconst 2, 1) := by decide +kernel
theorem dX7_left_17 : decode cX7_left 17 = .ok (.if_icmp .eq 13, 3) := by decide +kernel
theorem dX7_left_20 : decode cX7_left 20 = .ok (.aload_n 0, 1) := by decide +kernel
theorem dX7_left_21 : decode cX7_left 21 = .ok (.getfield 13, 3) := by decide +kernel
theorem dX7_left_24 : decode cX7_left 24 = .ok (.iload_n 2, 1) := by decide +kernel
theorem dX7_left_25 : decode cX7_left 25 = .ok (.iaload, 1) := by decide +kernel
theorem dX7_left_26 : decode cX7_left 26 = .ok (.iconst 3, 1) := by decide +kernel
theorem dX7_left_27 : decode cX7_left 27 = .ok (.if_icmp .ne 9, 3) := by decide +kernel
theorem dX7_left_30 : decode cX7_left 30 = .ok (.iload_n 1, 1) := by decide +kernel
theorem dX7_left_31 : decode cX7_left 31 = .ok (.iconst 1, 1) := by decide +kernel
theorem dX7_left_32 : decode cX7_left 32 = .ok (.iadd, 1) := by decide +kernel
theorem dX7_left_33 : decode cX7_left 33 = .ok (.goto 4, 3) := by decide +kernel
theorem dX7_left_36 : decode cX7_left 36 = .ok (.iload_n 1, 1) := by decide +kernel
theorem dX7_left_37 : decode cX7_left 37 = .ok (.istore_n 1, 1) := by decide +kernel
theorem dX7_left_38 : decode cX7_left 38 = .ok (.iinc 2 1, 3) := by decide +kernel
theorem dX7_left_41 : decode cX7_left 41 = .ok (.goto (-37), 3) := by decide +kernel
theorem dX7_left_44 : decode cX7_left 44 = .ok (.iload_n 1, 1) := by decide +kernel
theorem dX7_left_45 : decode cX7_left 45 = .ok (.ireturn, 1) := by decide +kernel
theorem dX7_play_0 : decode cX7_play 0 = .ok (.aload_n 0, 1) := by decide +kernel
theorem dX7_play_1 : decode cX7_play 1 = .ok (.getfield 81, 3) := by decide +kernel
theorem dX7_play_4 : decode cX7_play 4 = .ok (.ifCond .le 27, 3) := by decide +kernel
theorem dX7_play_7 : decode cX7_play 7 = .ok (.aload_n 0, 1) := by decide +kernel
theorem dX7_play_8 : decode cX7_play 8 = .ok (.dup, 1) := by decide +kernel
theorem dX7_play_9 : decode cX7_play 9 = .ok (.getfield 81, 3) := by decide +kernel
theorem dX7_play_12 : decode cX7_play 12 = .ok (.iconst 1, 1) := by decide +kernel
theorem dX7_play_13 : decode cX7_play 13 = .ok (.isub, 1) := by decide +kernel
theorem dX7_play_14 : decode cX7_play 14 = .ok (.putfield 81, 3) := by decide +kernel
theorem dX7_play_17 : decode cX7_play 17 = .ok (.aload_n 0, 1) := by decide +kernel
theorem dX7_play_18 : decode cX7_play 18 = .ok (.getfield 81, 3) := by decide +kernel
theorem dX7_play_21 : decode cX7_play 21 = .ok (.ifCond .ne 20, 3) := by decide +kernel
theorem dX7_play_24 : decode cX7_play 24 = .ok (.aload_n 0, 1) := by decide +kernel
theorem dX7_play_25 : decode cX7_play 25 = .ok (.invokevirtual 180, 3) := by decide +kernel
theorem dX7_play_28 : decode cX7_play 28 = .ok (.goto 13, 3) := by decide +kernel
theorem dX7_play_31 : decode cX7_play 31 = .ok (.aload_n 0, 1) := by decide +kernel
theorem dX7_play_32 : decode cX7_play 32 = .ok (.dup, 1) := by decide +kernel
theorem dX7_play_33 : decode cX7_play 33 = .ok (.getfield 78, 3) := by decide +kernel
theorem dX7_play_36 : decode cX7_play 36 = .ok (.iconst 1, 1) := by decide +kernel
theorem dX7_play_37 : decode cX7_play 37 = .ok (.iadd, 1) := by decide +kernel
theorem dX7_play_38 : decode cX7_play 38 = .ok (.putfield 78, 3) := by decide +kernel
theorem dX7_play_41 : decode cX7_play 41 = .ok (.iconst 0, 1) := by decide +kernel
theorem dX7_play_42 : decode cX7_play 42 = .ok (.istore_n 1, 1) := by decide +kernel
theorem dX7_play_43 : decode cX7_play 43 = .ok (.iload_n 1, 1) := by decide +kernel
theorem dX7_play_44 : decode cX7_play 44 = .ok (.iconst 5, 1) := by decide +kernel
theorem dX7_play_45 : decode cX7_play 45 = .ok (.if_icmp .ge 33, 3) := by decide +kernel
theorem dX7_play_48 : decode cX7_play 48 = .ok (.aload_n 0, 1) := by decide +kernel
theorem dX7_play_49 : decode cX7_play 49 = .ok (.getfield 46, 3) := by decide +kernel
theorem dX7_play_52 : decode cX7_play 52 = .ok (.iload_n 1, 1) := by decide +kernel
theorem dX7_play_53 : decode cX7_play 53 = .ok (.aload_n 0, 1) := by decide +kernel
theorem dX7_play_54 : decode cX7_play 54 = .ok (.getfield 23, 3) := by decide +kernel
theorem dX7_play_57 : decode cX7_play 57 = .ok (.iload_n 1, 1) := by decide +kernel
theorem dX7_play_58 : decode cX7_play 58 = .ok (.iaload, 1) := by decide +kernel
theorem dX7_play_59 : decode cX7_play 59 = .ok (.iastore, 1) := by decide +kernel
theorem dX7_play_60 : decode cX7_play 60 = .ok (.aload_n 0, 1) := by decide +kernel
theorem dX7_play_61 : decode cX7_play 61 = .ok (.getfield 49, 3) := by decide +kernel
theorem dX7_play_64 : decode cX7_play 64 = .ok (.iload_n 1, 1) := by decide +kernel
theorem dX7_play_65 : decode cX7_play 65 = .ok (.aload_n 0, 1) := by decide +kernel
theorem dX7_play_66 : decode cX7_play 66 = .ok (.getfield 26, 3) := by decide +kernel
theorem dX7_play_69 : decode cX7_play 69 = .ok (.iload_n 1, 1) := by decide +kernel
theorem dX7_play_70 : decode cX7_play 70 = .ok (.iaload, 1) := by decide +kernel
theorem dX7_play_71 : decode cX7_play 71 = .ok (.iastore, 1) := by decide +kernel
theorem dX7_play_72 : decode cX7_play 72 = .ok (.iinc 1 1, 3) := by decide +kernel
theorem dX7_play_75 : decode cX7_play 75 = .ok (.goto (-32), 3) := by decide +kernel
theorem dX7_play_78 : decode cX7_play 78 = .ok (.aload_n 0, 1) := by decide +kernel
theorem dX7_play_79 : decode cX7_play 79 = .ok (.invokevirtual 183, 3) := by decide +kernel
theorem dX7_play_82 : decode cX7_play 82 = .ok (.iconst 1, 1) := by decide +kernel
theorem dX7_play_83 : decode cX7_play 83 = .ok (.istore_n 1, 1) := by decide +kernel
theorem dX7_play_84 : decode cX7_play 84 = .ok (.iload_n 1, 1) := by decide +kernel
theorem dX7_play_85 : decode cX7_play 85 = .ok (.iconst 5, 1) := by decide +kernel
theorem dX7_play_86 : decode cX7_play 86 = .ok (.if_icmp .ge 14, 3) := by decide +kernel
theorem dX7_play_89 : decode cX7_play 89 = .ok (.aload_n 0, 1) := by decide +kernel
theorem dX7_play_90 : decode cX7_play 90 = .ok (.iload_n 1, 1) := by decide +kernel
theorem dX7_play_91 : decode cX7_play 91 = .ok (.invokevirtual 186, 3) := by decide +kernel
theorem dX7_play_94 : decode cX7_play 94 = .ok (.iinc 1 1, 3) := by decide +kernel
theorem dX7_play_97 : decode cX7_play 97 = .ok (.goto (-13), 3) := by decide +kernel
theorem dX7_play_100 : decode cX7_play 100 = .ok (.aload_n 0, 1) := by decide +kernel
theorem dX7_play_101 : decode cX7_play 101 = .ok (.invokevirtual 189, 3) := by decide +kernel
theorem dX7_play_104 : decode cX7_play 104 = .ok (.aload_n 0, 1) := by decide +kernel
theorem dX7_play_105 : decode cX7_play 105 = .ok (.getfield 170, 3) := by decide +kernel
theorem dX7_play_108 : decode cX7_play 108 = .ok (.ifCond .ne 28, 3) := by decide +kernel
theorem dX7_play_111 : decode cX7_play 111 = .ok (.aload_n 0, 1) := by decide +kernel
theorem dX7_play_112 : decode cX7_play 112 = .ok (.invokevirtual 192, 3) := by decide +kernel
theorem dX7_play_115 : decode cX7_play 115 = .ok (.ifCond .ne 21, 3) := by decide +kernel
theorem dX7_play_118 : decode cX7_play 118 = .ok (.aload_n 0, 1) := by decide +kernel
theorem dX7_play_119 : decode cX7_play 119 = .ok (.dup, 1) := by decide +kernel
theorem dX7_play_120 : decode cX7_play 120 = .ok (.getfield 118, 3) := by decide +kernel
theorem dX7_play_123 : decode cX7_play 123 = .ok (.iconst 1, 1) := by decide +kernel
theorem dX7_play_124 : decode cX7_play 124 = .ok (.iadd, 1) := by decide +kernel
theorem dX7_play_125 : decode cX7_play 125 = .ok (.putfield 118, 3) := by decide +kernel
theorem dX7_play_128 : decode cX7_play 128 = .ok (.aload_n 0, 1) := by decide +kernel
theorem dX7_play_129 : decode cX7_play 129 = .ok (.invokevirtual 64, 3) := by decide +kernel
theorem dX7_play_132 : decode cX7_play 132 = .ok (.aload_n 0, 1) := by decide +kernel
theorem dX7_play_133 : decode cX7_play 133 = .ok (.invokevirtual 67, 3) := by decide +kernel
theorem dX7_play_136 : decode cX7_play 136 = .ok (.return_, 1) := by decide +kernel
theorem dX7_voice_0 : decode cX7_voice 0 = .ok (.aload_n 0, 1) := by decide +kernel
theorem dX7_voice_1 : decode cX7_voice 1 = .ok (.getfield 58, 3) := by decide +kernel
theorem dX7_voice_4 : decode cX7_voice 4 = .ok (.iload_n 1, 1) := by decide +kernel
theorem dX7_voice_5 : decode cX7_voice 5 = .ok (.fload_n 2, 1) := by decide +kernel
theorem dX7_voice_6 : decode cX7_voice 6 = .ok (.fastore, 1) := by decide +kernel
theorem dX7_voice_7 : decode cX7_voice 7 = .ok (.aload_n 0, 1) := by decide +kernel
theorem dX7_voice_8 : decode cX7_voice 8 = .ok (.getfield 55, 3) := by decide +kernel
theorem dX7_voice_11 : decode cX7_voice 11 = .ok (.iload_n 1, 1) := by decide +kernel
theorem dX7_voice_12 : decode cX7_voice 12 = .ok (.iload_n 3, 1) := by decide +kernel
theorem dX7_voice_13 : decode cX7_voice 13 = .ok (.iastore, 1) := by decide +kernel
theorem dX7_voice_14 : decode cX7_voice 14 = .ok (.return_, 1) := by decide +kernel
theorem dX7_hear_0 : decode cX7_hear 0 = .ok (.iconst 0, 1) := by decide +kernel
theorem dX7_hear_1 : decode cX7_hear 1 = .ok (.istore_n 1, 1) := by decide +kernel
theorem dX7_hear_2 : decode cX7_hear 2 = .ok (.iload_n 1, 1) := by decide +kernel
theorem dX7_hear_3 : decode cX7_hear 3 = .ok (.iconst 3, 1) := by decide +kernel
theorem dX7_hear_4 : decode cX7_hear 4 = .ok (.if_icmp .ge 49, 3) := by decide +kernel
theorem dX7_hear_7 : decode cX7_hear 7 = .ok (.aload_n 0, 1) := by decide +kernel
theorem dX7_hear_8 : decode cX7_hear 8 = .ok (.getfield 52, 3) := by decide +kernel
theorem dX7_hear_11 : decode cX7_hear 11 = .ok (.iload_n 1, 1) := by decide +kernel
theorem dX7_hear_12 : decode cX7_hear 12 = .ok (.aload_n 0, 1) := by decide +kernel
theorem dX7_hear_13 : decode cX7_hear 13 = .ok (.getfield 52, 3) := by decide +kernel
theorem dX7_hear_16 : decode cX7_hear 16 = .ok (.iload_n 1, 1) := by decide +kernel
theorem dX7_hear_17 : decode cX7_hear 17 = .ok (.iaload, 1) := by decide +kernel
theorem dX7_hear_18 : decode cX7_hear 18 = .ok (.aload_n 0, 1) := by decide +kernel
theorem dX7_hear_19 : decode cX7_hear 19 = .ok (.getfield 55, 3) := by decide +kernel
theorem dX7_hear_22 : decode cX7_hear 22 = .ok (.iload_n 1, 1) := by decide +kernel
theorem dX7_hear_23 : decode cX7_hear 23 = .ok (.iaload, 1) := by decide +kernel
theorem dX7_hear_24 : decode cX7_hear 24 = .ok (.iadd, 1) := by decide +kernel
theorem dX7_hear_25 : decode cX7_hear 25 = .ok (.bipush 16, 2) := by decide +kernel
theorem dX7_hear_27 : decode cX7_hear 27 = .ok (.ishl, 1) := by decide +kernel
theorem dX7_hear_28 : decode cX7_hear 28 = .ok (.bipush 16, 2) := by decide +kernel
theorem dX7_hear_30 : decode cX7_hear 30 = .ok (.ishr, 1) := by decide +kernel
theorem dX7_hear_31 : decode cX7_hear 31 = .ok (.iastore, 1) := by decide +kernel
theorem dX7_hear_32 : decode cX7_hear 32 = .ok (.aload_n 0, 1) := by decide +kernel
theorem dX7_hear_33 : decode cX7_hear 33 = .ok (.getfield 58, 3) := by decide +kernel
theorem dX7_hear_36 : decode cX7_hear 36 = .ok (.iload_n 1, 1) := by decide +kernel
theorem dX7_hear_37 : decode cX7_hear 37 = .ok (.aload_n 0, 1) := by decide +kernel
theorem dX7_hear_38 : decode cX7_hear 38 = .ok (.getfield 58, 3) := by decide +kernel
theorem dX7_hear_41 : decode cX7_hear 41 = .ok (.iload_n 1, 1) := by decide +kernel
theorem dX7_hear_42 : decode cX7_hear 42 = .ok (.faload, 1) := by decide +kernel
theorem dX7_hear_43 : decode cX7_hear 43 = .ok (.ldc 195, 2) := by decide +kernel
theorem dX7_hear_45 : decode cX7_hear 45 = .ok (.fmul, 1) := by decide +kernel
theorem dX7_hear_46 : decode cX7_hear 46 = .ok (.fastore, 1) := by decide +kernel
theorem dX7_hear_47 : decode cX7_hear 47 = .ok (.iinc 1 1, 3) := by decide +kernel
theorem dX7_hear_50 : decode cX7_hear 50 = .ok (.goto (-48), 3) := by decide +kernel
theorem dX7_hear_53 : decode cX7_hear 53 = .ok (.aload_n 0, 1) := by decide +kernel
theorem dX7_hear_54 : decode cX7_hear 54 = .ok (.getfield 127, 3) := by decide +kernel
theorem dX7_hear_57 : decode cX7_hear 57 = .ok (.ifCond .eq 12, 3) := by decide +kernel
theorem dX7_hear_60 : decode cX7_hear 60 = .ok (.aload_n 0, 1) := by decide +kernel
theorem dX7_hear_61 : decode cX7_hear 61 = .ok (.iconst 0, 1) := by decide +kernel
theorem dX7_hear_62 : decode cX7_hear 62 = .ok (.fconst 1, 1) := by decide +kernel
theorem dX7_hear_63 : decode cX7_hear 63 = .ok (.sipush 900, 3) := by decide +kernel
theorem dX7_hear_66 : decode cX7_hear 66 = .ok (.invokevirtual 196, 3) := by decide +kernel
theorem dX7_hear_69 : decode cX7_hear 69 = .ok (.aload_n 0, 1) := by decide +kernel
theorem dX7_hear_70 : decode cX7_hear 70 = .ok (.getfield 177, 3) := by decide +kernel
theorem dX7_hear_73 : decode cX7_hear 73 = .ok (.ifCond .eq 47, 3) := by decide +kernel
theorem dX7_hear_76 : decode cX7_hear 76 = .ok (.aload_n 0, 1) := by decide +kernel
theorem dX7_hear_77 : decode cX7_hear 77 = .ok (.iconst 1, 1) := by decide +kernel
theorem dX7_hear_78 : decode cX7_hear 78 = .ok (.ldc 200, 2) := by decide +kernel
theorem dX7_hear_80 : decode cX7_hear 80 = .ok (.aload_n 0, 1) := by decide +kernel
theorem dX7_hear_81 : decode cX7_hear 81 = .ok (.getfield 81, 3) := by decide +kernel
theorem dX7_hear_84 : decode cX7_hear 84 = .ok (.ifCond .le 9, 3) := by decide +kernel
theorem dX7_hear_87 : decode cX7_hear 87 = .ok (.sipush 600, 3) := by decide +kernel
theorem dX7_hear_90 : decode cX7_hear 90 = .ok (.goto 27, 3) := by decide +kernel
theorem dX7_hear_93 : decode cX7_hear 93 = .ok (.aload_n 0, 1) := by decide +kernel
theorem dX7_hear_94 : decode cX7_hear 94 = .ok (.invokevirtual 166, 3) := by decide +kernel
theorem dX7_hear_97 : decode cX7_hear 97 = .ok (.ifCond .eq 9, 3) := by decide +kernel
theorem dX7_hear_100 : decode cX7_hear 100 = .ok (.sipush 300, 3) := by decide +kernel
theorem dX7_hear_103 : decode cX7_hear 103 = .ok (.goto 14, 3) := by decide +kernel
theorem dX7_hear_106 : decode cX7_hear 106 = .ok (.sipush 300, 3) := by decide +kernel
theorem dX7_hear_109 : decode cX7_hear 109 = .ok (.bipush 10, 2) := by decide +kernel
theorem dX7_hear_111 : decode cX7_hear 111 = .ok (.aload_n 0, 1) := by decide +kernel
theorem dX7_hear_112 : decode cX7_hear 112 = .ok (.getfield 118, 3) := by decide +kernel
theorem dX7_hear_115 : decode cX7_hear 115 = .ok (.imul, 1) := by decide +kernel
theorem dX7_hear_116 : decode cX7_hear 116 = .ok (.iadd, 1) := by decide +kernel
theorem dX7_hear_117 : decode cX7_hear 117 = .ok (.invokevirtual 196, 3) := by decide +kernel
theorem dX7_hear_120 : decode cX7_hear 120 = .ok (.aload_n 0, 1) := by decide +kernel
theorem dX7_hear_121 : decode cX7_hear 121 = .ok (.getfield 136, 3) := by decide +kernel
theorem dX7_hear_124 : decode cX7_hear 124 = .ok (.ifCond .eq 13, 3) := by decide +kernel
theorem dX7_hear_127 : decode cX7_hear 127 = .ok (.aload_n 0, 1) := by decide +kernel
theorem dX7_hear_128 : decode cX7_hear 128 = .ok (.iconst 2, 1) := by decide +kernel
theorem dX7_hear_129 : decode cX7_hear 129 = .ok (.ldc 201, 2) := by decide +kernel
theorem dX7_hear_131 : decode cX7_hear 131 = .ok (.sipush 1500, 3) := by decide +kernel
theorem dX7_hear_134 : decode cX7_hear 134 = .ok (.invokevirtual 196, 3) := by decide +kernel
theorem dX7_hear_137 : decode cX7_hear 137 = .ok (.aload_n 0, 1) := by decide +kernel
theorem dX7_hear_138 : decode cX7_hear 138 = .ok (.getfield 170, 3) := by decide +kernel
theorem dX7_hear_141 : decode cX7_hear 141 = .ok (.ifCond .eq 12, 3) := by decide +kernel
theorem dX7_hear_144 : decode cX7_hear 144 = .ok (.aload_n 0, 1) := by decide +kernel
theorem dX7_hear_145 : decode cX7_hear 145 = .ok (.iconst 2, 1) := by decide +kernel
theorem dX7_hear_146 : decode cX7_hear 146 = .ok (.ldc 201, 2) := by decide +kernel
theorem dX7_hear_148 : decode cX7_hear 148 = .ok (.bipush 100, 2) := by decide +kernel
theorem dX7_hear_150 : decode cX7_hear 150 = .ok (.invokevirtual 196, 3) := by decide +kernel
theorem dX7_hear_153 : decode cX7_hear 153 = .ok (.return_, 1) := by decide +kernel
theorem dX7_frame_0 : decode cX7_frame 0 = .ok (.aload_n 0, 1) := by decide +kernel
theorem dX7_frame_1 : decode cX7_frame 1 = .ok (.iconst 0, 1) := by decide +kernel
theorem dX7_frame_2 : decode cX7_frame 2 = .ok (.putfield 127, 3) := by decide +kernel
theorem dX7_frame_5 : decode cX7_frame 5 = .ok (.aload_n 0, 1) := by decide +kernel
theorem dX7_frame_6 : decode cX7_frame 6 = .ok (.iconst 0, 1) := by decide +kernel
theorem dX7_frame_7 : decode cX7_frame 7 = .ok (.putfield 136, 3) := by decide +kernel
theorem dX7_frame_10 : decode cX7_frame 10 = .ok (.aload_n 0, 1) := by decide +kernel
theorem dX7_frame_11 : decode cX7_frame 11 = .ok (.iconst 0, 1) := by decide +kernel
theorem dX7_frame_12 : decode cX7_frame 12 = .ok (.putfield 170, 3) := by decide +kernel
theorem dX7_frame_15 : decode cX7_frame 15 = .ok (.aload_n 0, 1) := by decide +kernel
theorem dX7_frame_16 : decode cX7_frame 16 = .ok (.getfield 177, 3) := by decide +kernel
theorem dX7_frame_19 : decode cX7_frame 19 = .ok (.ifCond .eq 7, 3) := by decide +kernel
theorem dX7_frame_22 : decode cX7_frame 22 = .ok (.aload_n 0, 1) := by decide +kernel
theorem dX7_frame_23 : decode cX7_frame 23 = .ok (.invokevirtual 202, 3) := by decide +kernel
theorem dX7_frame_26 : decode cX7_frame 26 = .ok (.aload_n 0, 1) := by decide +kernel
theorem dX7_frame_27 : decode cX7_frame 27 = .ok (.invokevirtual 205, 3) := by decide +kernel
theorem dX7_frame_30 : decode cX7_frame 30 = .ok (.aload_n 0, 1) := by decide +kernel
theorem dX7_frame_31 : decode cX7_frame 31 = .ok (.dup, 1) := by decide +kernel
theorem dX7_frame_32 : decode cX7_frame 32 = .ok (.getfield 208, 3) := by decide +kernel
theorem dX7_frame_35 : decode cX7_frame 35 = .ok (.iconst 1, 1) := by decide +kernel
theorem dX7_frame_36 : decode cX7_frame 36 = .ok (.iadd, 1) := by decide +kernel
theorem dX7_frame_37 : decode cX7_frame 37 = .ok (.putfield 208, 3) := by decide +kernel
theorem dX7_frame_40 : decode cX7_frame 40 = .ok (.aload_n 0, 1) := by decide +kernel
theorem dX7_frame_41 : decode cX7_frame 41 = .ok (.dup, 1) := by decide +kernel
theorem dX7_frame_42 : decode cX7_frame 42 = .ok (.getfield 211, 3) := by decide +kernel
theorem dX7_frame_45 : decode cX7_frame 45 = .ok (.iconst 1, 1) := by decide +kernel
theorem dX7_frame_46 : decode cX7_frame 46 = .ok (.iadd, 1) := by decide +kernel
theorem dX7_frame_47 : decode cX7_frame 47 = .ok (.putfield 211, 3) := by decide +kernel
theorem dX7_frame_50 : decode cX7_frame 50 = .ok (.aload_n 0, 1) := by decide +kernel
theorem dX7_frame_51 : decode cX7_frame 51 = .ok (.getfield 211, 3) := by decide +kernel
theorem dX7_frame_54 : decode cX7_frame 54 = .ok (.bipush 120, 2) := by decide +kernel
theorem dX7_frame_56 : decode cX7_frame 56 = .ok (.if_icmp .ne 7, 3) := by decide +kernel
theorem dX7_frame_59 : decode cX7_frame 59 = .ok (.aload_n 0, 1) := by decide +kernel
theorem dX7_frame_60 : decode cX7_frame 60 = .ok (.invokevirtual 214, 3) := by decide +kernel
theorem dX7_frame_63 : decode cX7_frame 63 = .ok (.return_, 1) := by decide +kernel
theorem dX7_reset_0 : decode cX7_reset 0 = .ok (.aload_n 0, 1) := by decide +kernel
theorem dX7_reset_1 : decode cX7_reset 1 = .ok (.iconst 0, 1) := by decide +kernel
theorem dX7_reset_2 : decode cX7_reset 2 = .ok (.putfield 217, 3) := by decide +kernel
theorem dX7_reset_5 : decode cX7_reset 5 = .ok (.aload_n 0, 1) := by decide +kernel
theorem dX7_reset_6 : decode cX7_reset 6 = .ok (.iconst 0, 1) := by decide +kernel
theorem dX7_reset_7 : decode cX7_reset 7 = .ok (.putfield 177, 3) := by decide +kernel
theorem dX7_reset_10 : decode cX7_reset 10 = .ok (.aload_n 0, 1) := by decide +kernel
theorem dX7_reset_11 : decode cX7_reset 11 = .ok (.iconst 0, 1) := by decide +kernel
theorem dX7_reset_12 : decode cX7_reset 12 = .ok (.putfield 101, 3) := by decide +kernel
theorem dX7_reset_15 : decode cX7_reset 15 = .ok (.aload_n 0, 1) := by decide +kernel
theorem dX7_reset_16 : decode cX7_reset 16 = .ok (.iconst 0, 1) := by decide +kernel
theorem dX7_reset_17 : decode cX7_reset 17 = .ok (.putfield 104, 3) := by decide +kernel
theorem dX7_reset_20 : decode cX7_reset 20 = .ok (.aload_n 0, 1) := by decide +kernel
theorem dX7_reset_21 : decode cX7_reset 21 = .ok (.iconst 0, 1) := by decide +kernel
theorem dX7_reset_22 : decode cX7_reset 22 = .ok (.putfield 108, 3) := by decide +kernel
theorem dX7_reset_25 : decode cX7_reset 25 = .ok (.aload_n 0, 1) := by decide +kernel
theorem dX7_reset_26 : decode cX7_reset 26 = .ok (.iconst 0, 1) := by decide +kernel
theorem dX7_reset_27 : decode cX7_reset 27 = .ok (.putfield 118, 3) := by decide +kernel
theorem dX7_reset_30 : decode cX7_reset 30 = .ok (.aload_n 0, 1) := by decide +kernel
theorem dX7_reset_31 : decode cX7_reset 31 = .ok (.iconst 0, 1) := by decide +kernel
theorem dX7_reset_32 : decode cX7_reset 32 = .ok (.putfield 139, 3) := by decide +kernel
theorem dX7_reset_35 : decode cX7_reset 35 = .ok (.aload_n 0, 1) := by decide +kernel
theorem dX7_reset_36 : decode cX7_reset 36 = .ok (.iconst 0, 1) := by decide +kernel
theorem dX7_reset_37 : decode cX7_reset 37 = .ok (.putfield 211, 3) := by decide +kernel
theorem dX7_reset_40 : decode cX7_reset 40 = .ok (.aload_n 0, 1) := by decide +kernel
theorem dX7_reset_41 : decode cX7_reset 41 = .ok (.iconst 1, 1) := by decide +kernel
theorem dX7_reset_42 : decode cX7_reset 42 = .ok (.putfield 16, 3) := by decide +kernel
theorem dX7_reset_45 : decode cX7_reset 45 = .ok (.aload_n 0, 1) := by decide +kernel
theorem dX7_reset_46 : decode cX7_reset 46 = .ok (.iconst (-1), 1) := by decide +kernel
theorem dX7_reset_47 : decode cX7_reset 47 = .ok (.putfield 20, 3) := by decide +kernel
theorem dX7_reset_50 : decode cX7_reset 50 = .ok (.aload_n 0, 1) := by decide +kernel
theorem dX7_reset_51 : decode cX7_reset 51 = .ok (.invokevirtual 64, 3) := by decide +kernel
theorem dX7_reset_54 : decode cX7_reset 54 = .ok (.aload_n 0, 1) := by decide +kernel
theorem dX7_reset_55 : decode cX7_reset 55 = .ok (.invokevirtual 67, 3) := by decide +kernel
theorem dX7_reset_58 : decode cX7_reset 58 = .ok (.iconst 0, 1) := by decide +kernel
theorem dX7_reset_59 : decode cX7_reset 59 = .ok (.istore_n 1, 1) := by decide +kernel
theorem dX7_reset_60 : decode cX7_reset 60 = .ok (.iload_n 1, 1) := by decide +kernel
theorem dX7_reset_61 : decode cX7_reset 61 = .ok (.iconst 3, 1) := by decide +kernel
theorem dX7_reset_62 : decode cX7_reset 62 = .ok (.if_icmp .ge 30, 3) := by decide +kernel
theorem dX7_reset_65 : decode cX7_reset 65 = .ok (.aload_n 0, 1) := by decide +kernel
theorem dX7_reset_66 : decode cX7_reset 66 = .ok (.getfield 52, 3) := by decide +kernel
theorem dX7_reset_69 : decode cX7_reset 69 = .ok (.iload_n 1, 1) := by decide +kernel
theorem dX7_reset_70 : decode cX7_reset 70 = .ok (.iconst 0, 1) := by decide +kernel
theorem dX7_reset_71 : decode cX7_reset 71 = .ok (.iastore, 1) := by decide +kernel
theorem dX7_reset_72 : decode cX7_reset 72 = .ok (.aload_n 0, 1) := by decide +kernel
theorem dX7_reset_73 : decode cX7_reset 73 = .ok (.getfield 55, 3) := by decide +kernel
theorem dX7_reset_76 : decode cX7_reset 76 = .ok (.iload_n 1, 1) := by decide +kernel
theorem dX7_reset_77 : decode cX7_reset 77 = .ok (.iconst 0, 1) := by decide +kernel
theorem dX7_reset_78 : decode cX7_reset 78 = .ok (.iastore, 1) := by decide +kernel
theorem dX7_reset_79 : decode cX7_reset 79 = .ok (.aload_n 0, 1) := by decide +kernel
theorem dX7_reset_80 : decode cX7_reset 80 = .ok (.getfield 58, 3) := by decide +kernel
theorem dX7_reset_83 : decode cX7_reset 83 = .ok (.iload_n 1, 1) := by decide +kernel
theorem dX7_reset_84 : decode cX7_reset 84 = .ok (.fconst 0, 1) := by decide +kernel
theorem dX7_reset_85 : decode cX7_reset 85 = .ok (.fastore, 1) := by decide +kernel
theorem dX7_reset_86 : decode cX7_reset 86 = .ok (.iinc 1 1, 3) := by decide +kernel
theorem dX7_reset_89 : decode cX7_reset 89 = .ok (.goto (-29), 3) := by decide +kernel
theorem dX7_reset_92 : decode cX7_reset 92 = .ok (.return_, 1) := by decide +kernel
theorem dX7_coin_0 : decode cX7_coin 0 = .ok (.aload_n 0, 1) := by decide +kernel
theorem dX7_coin_1 : decode cX7_coin 1 = .ok (.getfield 217, 3) := by decide +kernel
theorem dX7_coin_4 : decode cX7_coin 4 = .ok (.bipush 9, 2) := by decide +kernel
theorem dX7_coin_6 : decode cX7_coin 6 = .ok (.if_icmp .ne 5, 3) := by decide +kernel
theorem dX7_coin_9 : decode cX7_coin 9 = .ok (.iconst 0, 1) := by decide +kernel
theorem dX7_coin_10 : decode cX7_coin 10 = .ok (.ireturn, 1) := by decide +kernel
theorem dX7_coin_11 : decode cX7_coin 11 = .ok (.aload_n 0, 1) := by decide +kernel
theorem dX7_coin_12 : decode cX7_coin 12 = .ok (.dup, 1) := by decide +kernel
theorem dX7_coin_13 : decode cX7_coin 13 = .ok (.getfield 217, 3) := by decide +kernel
theorem dX7_coin_16 : decode cX7_coin 16 = .ok (.iconst 1, 1) := by decide +kernel
theorem dX7_coin_17 : decode cX7_coin 17 = .ok (.iadd, 1) := by decide +kernel
theorem dX7_coin_18 : decode cX7_coin 18 = .ok (.putfield 217, 3) := by decide +kernel
theorem dX7_coin_21 : decode cX7_coin 21 = .ok (.iconst 1, 1) := by decide +kernel
theorem dX7_coin_22 : decode cX7_coin 22 = .ok (.ireturn, 1) := by decide +kernel
theorem dX7_start_0 : decode cX7_start 0 = .ok (.aload_n 0, 1) := by decide +kernel
theorem dX7_start_1 : decode cX7_start 1 = .ok (.getfield 217, 3) := by decide +kernel
theorem dX7_start_4 : decode cX7_start 4 = .ok (.ifCond .eq 10, 3) := by decide +kernel
theorem dX7_start_7 : decode cX7_start 7 = .ok (.aload_n 0, 1) := by decide +kernel
theorem dX7_start_8 : decode cX7_start 8 = .ok (.getfield 177, 3) := by decide +kernel
theorem dX7_start_11 : decode cX7_start 11 = .ok (.ifCond .eq 5, 3) := by decide +kernel
theorem dX7_start_14 : decode cX7_start 14 = .ok (.iconst 0, 1) := by decide +kernel
theorem dX7_start_15 : decode cX7_start 15 = .ok (.ireturn, 1) := by decide +kernel
theorem dX7_start_16 : decode cX7_start 16 = .ok (.aload_n 0, 1) := by decide +kernel
theorem dX7_start_17 : decode cX7_start 17 = .ok (.dup, 1) := by decide +kernel
theorem dX7_start_18 : decode cX7_start 18 = .ok (.getfield 217, 3) := by decide +kernel
theorem dX7_start_21 : decode cX7_start 21 = .ok (.iconst 1, 1) := by decide +kernel
theorem dX7_start_22 : decode cX7_start 22 = .ok (.isub, 1) := by decide +kernel
theorem dX7_start_23 : decode cX7_start 23 = .ok (.putfield 217, 3) := by decide +kernel
theorem dX7_start_26 : decode cX7_start 26 = .ok (.aload_n 0, 1) := by decide +kernel
theorem dX7_start_27 : decode cX7_start 27 = .ok (.iconst 1, 1) := by decide +kernel
theorem dX7_start_28 : decode cX7_start 28 = .ok (.putfield 177, 3) := by decide +kernel
theorem dX7_start_31 : decode cX7_start 31 = .ok (.aload_n 0, 1) := by decide +kernel
theorem dX7_start_32 : decode cX7_start 32 = .ok (.iconst 1, 1) := by decide +kernel
theorem dX7_start_33 : decode cX7_start 33 = .ok (.putfield 118, 3) := by decide +kernel
theorem dX7_start_36 : decode cX7_start 36 = .ok (.aload_n 0, 1) := by decide +kernel
theorem dX7_start_37 : decode cX7_start 37 = .ok (.iconst 3, 1) := by decide +kernel
theorem dX7_start_38 : decode cX7_start 38 = .ok (.putfield 108, 3) := by decide +kernel
theorem dX7_start_41 : decode cX7_start 41 = .ok (.aload_n 0, 1) := by decide +kernel
theorem dX7_start_42 : decode cX7_start 42 = .ok (.iconst 0, 1) := by decide +kernel
theorem dX7_start_43 : decode cX7_start 43 = .ok (.putfield 101, 3) := by decide +kernel
theorem dX7_start_46 : decode cX7_start 46 = .ok (.aload_n 0, 1) := by decide +kernel
theorem dX7_start_47 : decode cX7_start 47 = .ok (.iconst 0, 1) := by decide +kernel
theorem dX7_start_48 : decode cX7_start 48 = .ok (.putfield 104, 3) := by decide +kernel
theorem dX7_start_51 : decode cX7_start 51 = .ok (.aload_n 0, 1) := by decide +kernel
theorem dX7_start_52 : decode cX7_start 52 = .ok (.iconst 0, 1) := by decide +kernel
theorem dX7_start_53 : decode cX7_start 53 = .ok (.putfield 139, 3) := by decide +kernel
theorem dX7_start_56 : decode cX7_start 56 = .ok (.aload_n 0, 1) := by decide +kernel
theorem dX7_start_57 : decode cX7_start 57 = .ok (.iconst 1, 1) := by decide +kernel
theorem dX7_start_58 : decode cX7_start 58 = .ok (.putfield 16, 3) := by decide +kernel
theorem dX7_start_61 : decode cX7_start 61 = .ok (.aload_n 0, 1) := by decide +kernel
theorem dX7_start_62 : decode cX7_start 62 = .ok (.invokevirtual 64, 3) := by decide +kernel
theorem dX7_start_65 : decode cX7_start 65 = .ok (.aload_n 0, 1) := by decide +kernel
theorem dX7_start_66 : decode cX7_start 66 = .ok (.invokevirtual 67, 3) := by decide +kernel
theorem dX7_start_69 : decode cX7_start 69 = .ok (.iconst 1, 1) := by decide +kernel
theorem dX7_start_70 : decode cX7_start 70 = .ok (.ireturn, 1) := by decide +kernel
theorem dX7_stick_0 : decode cX7_stick 0 = .ok (.iload_n 1, 1) := by decide +kernel
theorem dX7_stick_1 : decode cX7_stick 1 = .ok (.iconst (-1), 1) := by decide +kernel
theorem dX7_stick_2 : decode cX7_stick 2 = .ok (.if_icmp .lt 8, 3) := by decide +kernel
theorem dX7_stick_5 : decode cX7_stick 5 = .ok (.iload_n 1, 1) := by decide +kernel
theorem dX7_stick_6 : decode cX7_stick 6 = .ok (.iconst 3, 1) := by decide +kernel
theorem dX7_stick_7 : decode cX7_stick 7 = .ok (.if_icmp .le 5, 3) := by decide +kernel
theorem dX7_stick_10 : decode cX7_stick 10 = .ok (.iconst 0, 1) := by decide +kernel
theorem dX7_stick_11 : decode cX7_stick 11 = .ok (.ireturn, 1) := by decide +kernel
theorem dX7_stick_12 : decode cX7_stick 12 = .ok (.aload_n 0, 1) := by decide +kernel
theorem dX7_stick_13 : decode cX7_stick 13 = .ok (.iload_n 1, 1) := by decide +kernel
theorem dX7_stick_14 : decode cX7_stick 14 = .ok (.putfield 20, 3) := by decide +kernel
theorem dX7_stick_17 : decode cX7_stick 17 = .ok (.iconst 1, 1) := by decide +kernel
theorem dX7_stick_18 : decode cX7_stick 18 = .ok (.ireturn, 1) := by decide +kernel
theorem dX7_kick_0 : decode cX7_kick 0 = .ok (.aload_n 0, 1) := by decide +kernel
theorem dX7_kick_1 : decode cX7_kick 1 = .ok (.iconst 0, 1) := by decide +kernel
theorem dX7_kick_2 : decode cX7_kick 2 = .ok (.putfield 211, 3) := by decide +kernel
theorem dX7_kick_5 : decode cX7_kick 5 = .ok (.return_, 1) := by decide +kernel
theorem dX7_frames_0 : decode cX7_frames 0 = .ok (.iload_n 1, 1) := by decide +kernel
theorem dX7_frames_1 : decode cX7_frames 1 = .ok (.iconst 1, 1) := by decide +kernel
theorem dX7_frames_2 : decode cX7_frames 2 = .ok (.if_icmp .lt 9, 3) := by decide +kernel
theorem dX7_frames_5 : decode cX7_frames 5 = .ok (.iload_n 1, 1) := by decide +kernel
theorem dX7_frames_6 : decode cX7_frames 6 = .ok (.bipush 60, 2) := by decide +kernel
theorem dX7_frames_8 : decode cX7_frames 8 = .ok (.if_icmp .le 5, 3) := by decide +kernel
theorem dX7_frames_11 : decode cX7_frames 11 = .ok (.iconst (-1), 1) := by decide +kernel
theorem dX7_frames_12 : decode cX7_frames 12 = .ok (.ireturn, 1) := by decide +kernel
theorem dX7_frames_13 : decode cX7_frames 13 = .ok (.iconst 0, 1) := by decide +kernel
theorem dX7_frames_14 : decode cX7_frames 14 = .ok (.istore_n 2, 1) := by decide +kernel
theorem dX7_frames_15 : decode cX7_frames 15 = .ok (.iload_n 2, 1) := by decide +kernel
theorem dX7_frames_16 : decode cX7_frames 16 = .ok (.iload_n 1, 1) := by decide +kernel
theorem dX7_frames_17 : decode cX7_frames 17 = .ok (.if_icmp .ge 13, 3) := by decide +kernel
theorem dX7_frames_20 : decode cX7_frames 20 = .ok (.aload_n 0, 1) := by decide +kernel
theorem dX7_frames_21 : decode cX7_frames 21 = .ok (.invokevirtual 220, 3) := by decide +kernel
theorem dX7_frames_24 : decode cX7_frames 24 = .ok (.iinc 2 1, 3) := by decide +kernel
theorem dX7_frames_27 : decode cX7_frames 27 = .ok (.goto (-12), 3) := by decide +kernel
theorem dX7_frames_30 : decode cX7_frames 30 = .ok (.iload_n 1, 1) := by decide +kernel
theorem dX7_frames_31 : decode cX7_frames 31 = .ok (.ireturn, 1) := by decide +kernel
theorem dX7_look_0 : decode cX7_look 0 = .ok (.iload_n 1, 1) := by decide +kernel
theorem dX7_look_1 : decode cX7_look 1 = .ok (.bipush 6, 2) := by decide +kernel
theorem dX7_look_3 : decode cX7_look 3 = .ok (.if_icmp .ge 84, 3) := by decide +kernel
theorem dX7_look_6 : decode cX7_look 6 = .ok (.iload_n 1, 1) := by decide +kernel
theorem dX7_look_7 : decode cX7_look 7 = .ok (.ifCond .ne 18, 3) := by decide +kernel
theorem dX7_look_10 : decode cX7_look 10 = .ok (.aload_n 0, 1) := by decide +kernel
theorem dX7_look_11 : decode cX7_look 11 = .ok (.getfield 177, 3) := by decide +kernel
theorem dX7_look_14 : decode cX7_look 14 = .ok (.ifCond .eq 7, 3) := by decide +kernel
theorem dX7_look_17 : decode cX7_look 17 = .ok (.iconst 1, 1) := by decide +kernel
theorem dX7_look_18 : decode cX7_look 18 = .ok (.goto 68, 3) := by decide +kernel
theorem dX7_look_21 : decode cX7_look 21 = .ok (.iconst 0, 1) := by decide +kernel
theorem dX7_look_22 : decode cX7_look 22 = .ok (.goto 64, 3) := by decide +kernel
theorem dX7_look_25 : decode cX7_look 25 = .ok (.iload_n 1, 1) := by decide +kernel
theorem dX7_look_26 : decode cX7_look 26 = .ok (.iconst 1, 1) := by decide +kernel
theorem dX7_look_27 : decode cX7_look 27 = .ok (.if_icmp .ne 10, 3) := by decide +kernel
theorem dX7_look_30 : decode cX7_look 30 = .ok (.aload_n 0, 1) := by decide +kernel
theorem dX7_look_31 : decode cX7_look 31 = .ok (.getfield 101, 3) := by decide +kernel
theorem dX7_look_34 : decode cX7_look 34 = .ok (.goto 52, 3) := by decide +kernel
theorem dX7_look_37 : decode cX7_look 37 = .ok (.iload_n 1, 1) := by decide +kernel
theorem dX7_look_38 : decode cX7_look 38 = .ok (.iconst 2, 1) := by decide +kernel
theorem dX7_look_39 : decode cX7_look 39 = .ok (.if_icmp .ne 10, 3) := by decide +kernel
theorem dX7_look_42 : decode cX7_look 42 = .ok (.aload_n 0, 1) := by decide +kernel
theorem dX7_look_43 : decode cX7_look 43 = .ok (.getfield 111, 3) := by decide +kernel
theorem dX7_look_46 : decode cX7_look 46 = .ok (.goto 40, 3) := by decide +kernel
theorem dX7_look_49 : decode cX7_look 49 = .ok (.iload_n 1, 1) := by decide +kernel
theorem dX7_look_50 : decode cX7_look 50 = .ok (.iconst 3, 1) := by decide +kernel
theorem dX7_look_51 : decode cX7_look 51 = .ok (.if_icmp .ne 10, 3) := by decide +kernel
theorem dX7_look_54 : decode cX7_look 54 = .ok (.aload_n 0, 1) := by decide +kernel
theorem dX7_look_55 : decode cX7_look 55 = .ok (.getfield 108, 3) := by decide +kernel
theorem dX7_look_58 : decode cX7_look 58 = .ok (.goto 28, 3) := by decide +kernel
theorem dX7_look_61 : decode cX7_look 61 = .ok (.iload_n 1, 1) := by decide +kernel
theorem dX7_look_62 : decode cX7_look 62 = .ok (.iconst 4, 1) := by decide +kernel
theorem dX7_look_63 : decode cX7_look 63 = .ok (.if_icmp .ne 10, 3) := by decide +kernel
theorem dX7_look_66 : decode cX7_look 66 = .ok (.aload_n 0, 1) := by decide +kernel
theorem dX7_look_67 : decode cX7_look 67 = .ok (.getfield 118, 3) := by decide +kernel
theorem dX7_look_70 : decode cX7_look 70 = .ok (.goto 16, 3) := by decide +kernel
theorem dX7_look_73 : decode cX7_look 73 = .ok (.iload_n 1, 1) := by decide +kernel
theorem dX7_look_74 : decode cX7_look 74 = .ok (.iconst 5, 1) := by decide +kernel
theorem dX7_look_75 : decode cX7_look 75 = .ok (.if_icmp .ne 10, 3) := by decide +kernel
theorem dX7_look_78 : decode cX7_look 78 = .ok (.aload_n 0, 1) := by decide +kernel
theorem dX7_look_79 : decode cX7_look 79 = .ok (.getfield 217, 3) := by decide +kernel
theorem dX7_look_82 : decode cX7_look 82 = .ok (.goto 4, 3) := by decide +kernel
theorem dX7_look_85 : decode cX7_look 85 = .ok (.iconst (-1), 1) := by decide +kernel
theorem dX7_look_86 : decode cX7_look 86 = .ok (.ireturn, 1) := by decide +kernel
theorem dX7_look_87 : decode cX7_look 87 = .ok (.iload_n 1, 1) := by decide +kernel
theorem dX7_look_88 : decode cX7_look 88 = .ok (.bipush 9, 2) := by decide +kernel
theorem dX7_look_90 : decode cX7_look 90 = .ok (.if_icmp .ge 34, 3) := by decide +kernel
theorem dX7_look_93 : decode cX7_look 93 = .ok (.iload_n 1, 1) := by decide +kernel
theorem dX7_look_94 : decode cX7_look 94 = .ok (.bipush 6, 2) := by decide +kernel
theorem dX7_look_96 : decode cX7_look 96 = .ok (.if_icmp .ne 10, 3) := by decide +kernel
theorem dX7_look_99 : decode cX7_look 99 = .ok (.aload_n 0, 1) := by decide +kernel
theorem dX7_look_100 : decode cX7_look 100 = .ok (.invokevirtual 192, 3) := by decide +kernel
theorem dX7_look_103 : decode cX7_look 103 = .ok (.goto 20, 3) := by decide +kernel
theorem dX7_look_106 : decode cX7_look 106 = .ok (.iload_n 1, 1) := by decide +kernel
theorem dX7_look_107 : decode cX7_look 107 = .ok (.bipush 7, 2) := by decide +kernel
theorem dX7_look_109 : decode cX7_look 109 = .ok (.if_icmp .ne 10, 3) := by decide +kernel
theorem dX7_look_112 : decode cX7_look 112 = .ok (.aload_n 0, 1) := by decide +kernel
theorem dX7_look_113 : decode cX7_look 113 = .ok (.getfield 81, 3) := by decide +kernel
theorem dX7_look_116 : decode cX7_look 116 = .ok (.goto 7, 3) := by decide +kernel
theorem dX7_look_119 : decode cX7_look 119 = .ok (.aload_n 0, 1) := by decide +kernel
theorem dX7_look_120 : decode cX7_look 120 = .ok (.getfield 78, 3) := by decide +kernel
theorem dX7_look_123 : decode cX7_look 123 = .ok (.ireturn, 1) := by decide +kernel
theorem dX7_look_124 : decode cX7_look 124 = .ok (.iload_n 1, 1) := by decide +kernel
theorem dX7_look_125 : decode cX7_look 125 = .ok (.bipush 9, 2) := by decide +kernel
theorem dX7_look_127 : decode cX7_look 127 = .ok (.if_icmp .ne 10, 3) := by decide +kernel
theorem dX7_look_130 : decode cX7_look 130 = .ok (.aload_n 0, 1) := by decide +kernel
theorem dX7_look_131 : decode cX7_look 131 = .ok (.getfield 139, 3) := by decide +kernel
theorem dX7_look_134 : decode cX7_look 134 = .ok (.goto 30, 3) := by decide +kernel
theorem dX7_look_137 : decode cX7_look 137 = .ok (.iload_n 1, 1) := by decide +kernel
theorem dX7_look_138 : decode cX7_look 138 = .ok (.bipush 10, 2) := by decide +kernel
theorem dX7_look_140 : decode cX7_look 140 = .ok (.if_icmp .ne 10, 3) := by decide +kernel
theorem dX7_look_143 : decode cX7_look 143 = .ok (.aload_n 0, 1) := by decide +kernel
theorem dX7_look_144 : decode cX7_look 144 = .ok (.getfield 211, 3) := by decide +kernel
theorem dX7_look_147 : decode cX7_look 147 = .ok (.goto 17, 3) := by decide +kernel
theorem dX7_look_150 : decode cX7_look 150 = .ok (.iload_n 1, 1) := by decide +kernel
theorem dX7_look_151 : decode cX7_look 151 = .ok (.bipush 11, 2) := by decide +kernel
theorem dX7_look_153 : decode cX7_look 153 = .ok (.if_icmp .ne 10, 3) := by decide +kernel
theorem dX7_look_156 : decode cX7_look 156 = .ok (.aload_n 0, 1) := by decide +kernel
theorem dX7_look_157 : decode cX7_look 157 = .ok (.getfield 208, 3) := by decide +kernel
theorem dX7_look_160 : decode cX7_look 160 = .ok (.goto 4, 3) := by decide +kernel
theorem dX7_look_163 : decode cX7_look 163 = .ok (.iconst (-1), 1) := by decide +kernel
theorem dX7_look_164 : decode cX7_look 164 = .ok (.ireturn, 1) := by decide +kernel
