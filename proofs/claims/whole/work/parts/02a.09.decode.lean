theorem dX7_actor_0 : decode cX7_actor 0 = .ok (.iload_n 1, 1) := by decide +kernel
theorem dX7_actor_1 : decode cX7_actor 1 = .ok (.ifCond .lt 17, 3) := by decide +kernel
theorem dX7_actor_4 : decode cX7_actor 4 = .ok (.iload_n 1, 1) := by decide +kernel
theorem dX7_actor_5 : decode cX7_actor 5 = .ok (.iconst 4, 1) := by decide +kernel
theorem dX7_actor_6 : decode cX7_actor 6 = .ok (.if_icmp .gt 12, 3) := by decide +kernel
theorem dX7_actor_9 : decode cX7_actor 9 = .ok (.iload_n 2, 1) := by decide +kernel
theorem dX7_actor_10 : decode cX7_actor 10 = .ok (.ifCond .lt 8, 3) := by decide +kernel
theorem dX7_actor_13 : decode cX7_actor 13 = .ok (.iload_n 2, 1) := by decide +kernel
theorem dX7_actor_14 : decode cX7_actor 14 = .ok (.iconst 5, 1) := by decide +kernel
theorem dX7_actor_15 : decode cX7_actor 15 = .ok (.if_icmp .le 5, 3) := by decide +kernel
theorem dX7_actor_18 : decode cX7_actor 18 = .ok (.iconst (-1), 1) := by decide +kernel
theorem dX7_actor_19 : decode cX7_actor 19 = .ok (.ireturn, 1) := by decide +kernel
theorem dX7_actor_20 : decode cX7_actor 20 = .ok (.iload_n 2, 1) := by decide +kernel
theorem dX7_actor_21 : decode cX7_actor 21 = .ok (.iconst 3, 1) := by decide +kernel
theorem dX7_actor_22 : decode cX7_actor 22 = .ok (.if_icmp .ge 37, 3) := by decide +kernel
theorem dX7_actor_25 : decode cX7_actor 25 = .ok (.iload_n 2, 1) := by decide +kernel
theorem dX7_actor_26 : decode cX7_actor 26 = .ok (.ifCond .ne 12, 3) := by decide +kernel
theorem dX7_actor_29 : decode cX7_actor 29 = .ok (.aload_n 0, 1) := by decide +kernel
theorem dX7_actor_30 : decode cX7_actor 30 = .ok (.getfield 23, 3) := by decide +kernel
theorem dX7_actor_33 : decode cX7_actor 33 = .ok (.iload_n 1, 1) := by decide +kernel
theorem dX7_actor_34 : decode cX7_actor 34 = .ok (.iaload, 1) := by decide +kernel
theorem dX7_actor_35 : decode cX7_actor 35 = .ok (.goto 23, 3) := by decide +kernel
theorem dX7_actor_38 : decode cX7_actor 38 = .ok (.iload_n 2, 1) := by decide +kernel
theorem dX7_actor_39 : decode cX7_actor 39 = .ok (.iconst 1, 1) := by decide +kernel
theorem dX7_actor_40 : decode cX7_actor 40 = .ok (.if_icmp .ne 12, 3) := by decide +kernel
theorem dX7_actor_43 : decode cX7_actor 43 = .ok (.aload_n 0, 1) := by decide +kernel
theorem dX7_actor_44 : decode cX7_actor 44 = .ok (.getfield 26, 3) := by decide +kernel
theorem dX7_actor_47 : decode cX7_actor 47 = .ok (.iload_n 1, 1) := by decide +kernel
theorem dX7_actor_48 : decode cX7_actor 48 = .ok (.iaload, 1) := by decide +kernel
theorem dX7_actor_49 : decode cX7_actor 49 = .ok (.goto 9, 3) := by decide +kernel
theorem dX7_actor_52 : decode cX7_actor 52 = .ok (.aload_n 0, 1) := by decide +kernel
theorem dX7_actor_53 : decode cX7_actor 53 = .ok (.getfield 29, 3) := by decide +kernel
theorem dX7_actor_56 : decode cX7_actor 56 = .ok (.iload_n 1, 1) := by decide +kernel
theorem dX7_actor_57 : decode cX7_actor 57 = .ok (.iaload, 1) := by decide +kernel
theorem dX7_actor_58 : decode cX7_actor 58 = .ok (.ireturn, 1) := by decide +kernel
theorem dX7_actor_59 : decode cX7_actor 59 = .ok (.iload_n 2, 1) := by decide +kernel
theorem dX7_actor_60 : decode cX7_actor 60 = .ok (.iconst 3, 1) := by decide +kernel
theorem dX7_actor_61 : decode cX7_actor 61 = .ok (.if_icmp .ne 20, 3) := by decide +kernel
theorem dX7_actor_64 : decode cX7_actor 64 = .ok (.aload_n 0, 1) := by decide +kernel
theorem dX7_actor_65 : decode cX7_actor 65 = .ok (.getfield 36, 3) := by decide +kernel
theorem dX7_actor_68 : decode cX7_actor 68 = .ok (.iload_n 1, 1) := by decide +kernel
theorem dX7_actor_69 : decode cX7_actor 69 = .ok (.baload, 1) := by decide +kernel
theorem dX7_actor_70 : decode cX7_actor 70 = .ok (.ifCond .eq 7, 3) := by decide +kernel
theorem dX7_actor_73 : decode cX7_actor 73 = .ok (.iconst 1, 1) := by decide +kernel
theorem dX7_actor_74 : decode cX7_actor 74 = .ok (.goto 35, 3) := by decide +kernel
theorem dX7_actor_77 : decode cX7_actor 77 = .ok (.iconst 0, 1) := by decide +kernel
theorem dX7_actor_78 : decode cX7_actor 78 = .ok (.goto 31, 3) := by decide +kernel
theorem dX7_actor_81 : decode cX7_actor 81 = .ok (.iload_n 2, 1) := by decide +kernel
theorem dX7_actor_82 : decode cX7_actor 82 = .ok (.iconst 4, 1) := by decide +kernel
theorem dX7_actor_83 : decode cX7_actor 83 = .ok (.if_icmp .ne 12, 3) := by decide +kernel
theorem dX7_actor_86 : decode cX7_actor 86 = .ok (.aload_n 0, 1) := by decide +kernel
theorem dX7_actor_87 : decode cX7_actor 87 = .ok (.getfield 40, 3) := by decide +kernel
theorem dX7_actor_90 : decode cX7_actor 90 = .ok (.iload_n 1, 1) := by decide +kernel
theorem dX7_actor_91 : decode cX7_actor 91 = .ok (.iaload, 1) := by decide +kernel
theorem dX7_actor_92 : decode cX7_actor 92 = .ok (.goto 17, 3) := by decide +kernel
theorem dX7_actor_95 : decode cX7_actor 95 = .ok (.aload_n 0, 1) := by decide +kernel
theorem dX7_actor_96 : decode cX7_actor 96 = .ok (.getfield 43, 3) := by decide +kernel
theorem dX7_actor_99 : decode cX7_actor 99 = .ok (.iload_n 1, 1) := by decide +kernel
theorem dX7_actor_100 : decode cX7_actor 100 = .ok (.baload, 1) := by decide +kernel
theorem dX7_actor_101 : decode cX7_actor 101 = .ok (.ifCond .eq 7, 3) := by decide +kernel
theorem dX7_actor_104 : decode cX7_actor 104 = .ok (.iconst 1, 1) := by decide +kernel
theorem dX7_actor_105 : decode cX7_actor 105 = .ok (.goto 4, 3) := by decide +kernel
theorem dX7_actor_108 : decode cX7_actor 108 = .ok (.iconst 0, 1) := by decide +kernel
theorem dX7_actor_109 : decode cX7_actor 109 = .ok (.ireturn, 1) := by decide +kernel
theorem dX7_progress_0 : decode cX7_progress 0 = .ok (.iload_n 1, 1) := by decide +kernel
theorem dX7_progress_1 : decode cX7_progress 1 = .ok (.ifCond .lt 8, 3) := by decide +kernel
theorem dX7_progress_4 : decode cX7_progress 4 = .ok (.iload_n 1, 1) := by decide +kernel
theorem dX7_progress_5 : decode cX7_progress 5 = .ok (.iconst 4, 1) := by decide +kernel
theorem dX7_progress_6 : decode cX7_progress 6 = .ok (.if_icmp .le 7, 3) := by decide +kernel
theorem dX7_progress_9 : decode cX7_progress 9 = .ok (.fconst 0, 1) := by decide +kernel
theorem dX7_progress_10 : decode cX7_progress 10 = .ok (.goto 9, 3) := by decide +kernel
theorem dX7_progress_13 : decode cX7_progress 13 = .ok (.aload_n 0, 1) := by decide +kernel
theorem dX7_progress_14 : decode cX7_progress 14 = .ok (.getfield 32, 3) := by decide +kernel
theorem dX7_progress_17 : decode cX7_progress 17 = .ok (.iload_n 1, 1) := by decide +kernel
theorem dX7_progress_18 : decode cX7_progress 18 = .ok (.faload, 1) := by decide +kernel
theorem dX7_progress_19 : decode cX7_progress 19 = .ok (.freturn, 1) := by decide +kernel
theorem dX7_cell_0 : decode cX7_cell 0 = .ok (.iload_n 1, 1) := by decide +kernel
theorem dX7_cell_1 : decode cX7_cell 1 = .ok (.ifCond .lt 19, 3) := by decide +kernel
theorem dX7_cell_4 : decode cX7_cell 4 = .ok (.iload_n 1, 1) := by decide +kernel
theorem dX7_cell_5 : decode cX7_cell 5 = .ok (.bipush 12, 2) := by decide +kernel
theorem dX7_cell_7 : decode cX7_cell 7 = .ok (.if_icmp .gt 13, 3) := by decide +kernel
theorem dX7_cell_10 : decode cX7_cell 10 = .ok (.iload_n 2, 1) := by decide +kernel
theorem dX7_cell_11 : decode cX7_cell 11 = .ok (.ifCond .lt 9, 3) := by decide +kernel
theorem dX7_cell_14 : decode cX7_cell 14 = .ok (.iload_n 2, 1) := by decide +kernel
theorem dX7_cell_15 : decode cX7_cell 15 = .ok (.bipush 8, 2) := by decide +kernel
theorem dX7_cell_17 : decode cX7_cell 17 = .ok (.if_icmp .le 7, 3) := by decide +kernel
theorem dX7_cell_20 : decode cX7_cell 20 = .ok (.iconst (-1), 1) := by decide +kernel
theorem dX7_cell_21 : decode cX7_cell 21 = .ok (.goto 14, 3) := by decide +kernel
theorem dX7_cell_24 : decode cX7_cell 24 = .ok (.aload_n 0, 1) := by decide +kernel
theorem dX7_cell_25 : decode cX7_cell 25 = .ok (.getfield 13, 3) := by decide +kernel
theorem dX7_cell_28 : decode cX7_cell 28 = .ok (.bipush 13, 2) := by decide +kernel
theorem dX7_cell_30 : decode cX7_cell 30 = .ok (.iload_n 2, 1) := by decide +kernel
theorem dX7_cell_31 : decode cX7_cell 31 = .ok (.imul, 1) := by decide +kernel
theorem dX7_cell_32 : decode cX7_cell 32 = .ok (.iload_n 1, 1) := by decide +kernel
theorem dX7_cell_33 : decode cX7_cell 33 = .ok (.iadd, 1) := by decide +kernel
theorem dX7_cell_34 : decode cX7_cell 34 = .ok (.iaload, 1) := by decide +kernel
theorem dX7_cell_35 : decode cX7_cell 35 = .ok (.ireturn, 1) := by decide +kernel
theorem dX7_sprite_0 : decode cX7_sprite 0 = .ok (.aload_n 0, 1) := by decide +kernel
theorem dX7_sprite_1 : decode cX7_sprite 1 = .ok (.getfield 32, 3) := by decide +kernel
theorem dX7_sprite_4 : decode cX7_sprite 4 = .ok (.iload_n 1, 1) := by decide +kernel
theorem dX7_sprite_5 : decode cX7_sprite 5 = .ok (.faload, 1) := by decide +kernel
theorem dX7_sprite_6 : decode cX7_sprite 6 = .ok (.ldc 223, 2) := by decide +kernel
theorem dX7_sprite_8 : decode cX7_sprite 8 = .ok (.fmul, 1) := by decide +kernel
theorem dX7_sprite_9 : decode cX7_sprite 9 = .ok (.f2i, 1) := by decide +kernel
theorem dX7_sprite_10 : decode cX7_sprite 10 = .ok (.istore 4, 2) := by decide +kernel
theorem dX7_sprite_12 : decode cX7_sprite 12 = .ok (.iconst 4, 1) := by decide +kernel
theorem dX7_sprite_13 : decode cX7_sprite 13 = .ok (.aload_n 0, 1) := by decide +kernel
theorem dX7_sprite_14 : decode cX7_sprite 14 = .ok (.getfield 23, 3) := by decide +kernel
theorem dX7_sprite_17 : decode cX7_sprite 17 = .ok (.iload_n 1, 1) := by decide +kernel
theorem dX7_sprite_18 : decode cX7_sprite 18 = .ok (.iaload, 1) := by decide +kernel
theorem dX7_sprite_19 : decode cX7_sprite 19 = .ok (.imul, 1) := by decide +kernel
theorem dX7_sprite_20 : decode cX7_sprite 20 = .ok (.iload 4, 2) := by decide +kernel
theorem dX7_sprite_22 : decode cX7_sprite 22 = .ok (.aload_n 0, 1) := by decide +kernel
theorem dX7_sprite_23 : decode cX7_sprite 23 = .ok (.getfield 29, 3) := by decide +kernel
theorem dX7_sprite_26 : decode cX7_sprite 26 = .ok (.iload_n 1, 1) := by decide +kernel
theorem dX7_sprite_27 : decode cX7_sprite 27 = .ok (.iaload, 1) := by decide +kernel
theorem dX7_sprite_28 : decode cX7_sprite 28 = .ok (.invokestatic 84, 3) := by decide +kernel
theorem dX7_sprite_31 : decode cX7_sprite 31 = .ok (.imul, 1) := by decide +kernel
theorem dX7_sprite_32 : decode cX7_sprite 32 = .ok (.iadd, 1) := by decide +kernel
theorem dX7_sprite_33 : decode cX7_sprite 33 = .ok (.istore 5, 2) := by decide +kernel
theorem dX7_sprite_35 : decode cX7_sprite 35 = .ok (.iconst 4, 1) := by decide +kernel
theorem dX7_sprite_36 : decode cX7_sprite 36 = .ok (.aload_n 0, 1) := by decide +kernel
theorem dX7_sprite_37 : decode cX7_sprite 37 = .ok (.getfield 26, 3) := by decide +kernel
theorem dX7_sprite_40 : decode cX7_sprite 40 = .ok (.iload_n 1, 1) := by decide +kernel
theorem dX7_sprite_41 : decode cX7_sprite 41 = .ok (.iaload, 1) := by decide +kernel
theorem dX7_sprite_42 : decode cX7_sprite 42 = .ok (.imul, 1) := by decide +kernel
theorem dX7_sprite_43 : decode cX7_sprite 43 = .ok (.iload 4, 2) := by decide +kernel
theorem dX7_sprite_45 : decode cX7_sprite 45 = .ok (.aload_n 0, 1) := by decide +kernel
theorem dX7_sprite_46 : decode cX7_sprite 46 = .ok (.getfield 29, 3) := by decide +kernel
theorem dX7_sprite_49 : decode cX7_sprite 49 = .ok (.iload_n 1, 1) := by decide +kernel
theorem dX7_sprite_50 : decode cX7_sprite 50 = .ok (.iaload, 1) := by decide +kernel
theorem dX7_sprite_51 : decode cX7_sprite 51 = .ok (.invokestatic 91, 3) := by decide +kernel
theorem dX7_sprite_54 : decode cX7_sprite 54 = .ok (.imul, 1) := by decide +kernel
theorem dX7_sprite_55 : decode cX7_sprite 55 = .ok (.iadd, 1) := by decide +kernel
theorem dX7_sprite_56 : decode cX7_sprite 56 = .ok (.istore 6, 2) := by decide +kernel
theorem dX7_sprite_58 : decode cX7_sprite 58 = .ok (.iload_n 2, 1) := by decide +kernel
theorem dX7_sprite_59 : decode cX7_sprite 59 = .ok (.iload 5, 2) := by decide +kernel
theorem dX7_sprite_61 : decode cX7_sprite 61 = .ok (.isub, 1) := by decide +kernel
theorem dX7_sprite_62 : decode cX7_sprite 62 = .ok (.bipush 104, 2) := by decide +kernel
theorem dX7_sprite_64 : decode cX7_sprite 64 = .ok (.iadd, 1) := by decide +kernel
theorem dX7_sprite_65 : decode cX7_sprite 65 = .ok (.bipush 52, 2) := by decide +kernel
theorem dX7_sprite_67 : decode cX7_sprite 67 = .ok (.irem, 1) := by decide +kernel
theorem dX7_sprite_68 : decode cX7_sprite 68 = .ok (.istore 7, 2) := by decide +kernel
theorem dX7_sprite_70 : decode cX7_sprite 70 = .ok (.iload_n 3, 1) := by decide +kernel
theorem dX7_sprite_71 : decode cX7_sprite 71 = .ok (.iload 6, 2) := by decide +kernel
theorem dX7_sprite_73 : decode cX7_sprite 73 = .ok (.isub, 1) := by decide +kernel
theorem dX7_sprite_74 : decode cX7_sprite 74 = .ok (.bipush 72, 2) := by decide +kernel
theorem dX7_sprite_76 : decode cX7_sprite 76 = .ok (.iadd, 1) := by decide +kernel
theorem dX7_sprite_77 : decode cX7_sprite 77 = .ok (.bipush 36, 2) := by decide +kernel
theorem dX7_sprite_79 : decode cX7_sprite 79 = .ok (.irem, 1) := by decide +kernel
theorem dX7_sprite_80 : decode cX7_sprite 80 = .ok (.istore 8, 2) := by decide +kernel
theorem dX7_sprite_82 : decode cX7_sprite 82 = .ok (.iload 7, 2) := by decide +kernel
theorem dX7_sprite_84 : decode cX7_sprite 84 = .ok (.iconst 3, 1) := by decide +kernel
theorem dX7_sprite_85 : decode cX7_sprite 85 = .ok (.if_icmp .gt 9, 3) := by decide +kernel
theorem dX7_sprite_88 : decode cX7_sprite 88 = .ok (.iload 8, 2) := by decide +kernel
theorem dX7_sprite_90 : decode cX7_sprite 90 = .ok (.iconst 3, 1) := by decide +kernel
theorem dX7_sprite_91 : decode cX7_sprite 91 = .ok (.if_icmp .le 5, 3) := by decide +kernel
theorem dX7_sprite_94 : decode cX7_sprite 94 = .ok (.iconst 0, 1) := by decide +kernel
theorem dX7_sprite_95 : decode cX7_sprite 95 = .ok (.ireturn, 1) := by decide +kernel
theorem dX7_sprite_96 : decode cX7_sprite 96 = .ok (.iload 7, 2) := by decide +kernel
theorem dX7_sprite_98 : decode cX7_sprite 98 = .ok (.ifCond .eq 9, 3) := by decide +kernel
theorem dX7_sprite_101 : decode cX7_sprite 101 = .ok (.iload 7, 2) := by decide +kernel
theorem dX7_sprite_103 : decode cX7_sprite 103 = .ok (.iconst 3, 1) := by decide +kernel
theorem dX7_sprite_104 : decode cX7_sprite 104 = .ok (.if_icmp .ne 7, 3) := by decide +kernel
theorem dX7_sprite_107 : decode cX7_sprite 107 = .ok (.iconst 1, 1) := by decide +kernel
theorem dX7_sprite_108 : decode cX7_sprite 108 = .ok (.goto 4, 3) := by decide +kernel
theorem dX7_sprite_111 : decode cX7_sprite 111 = .ok (.iconst 0, 1) := by decide +kernel
theorem dX7_sprite_112 : decode cX7_sprite 112 = .ok (.istore 9, 2) := by decide +kernel
theorem dX7_sprite_114 : decode cX7_sprite 114 = .ok (.iload_n 1, 1) := by decide +kernel
theorem dX7_sprite_115 : decode cX7_sprite 115 = .ok (.ifCond .le 35, 3) := by decide +kernel
theorem dX7_sprite_118 : decode cX7_sprite 118 = .ok (.iload 9, 2) := by decide +kernel
theorem dX7_sprite_120 : decode cX7_sprite 120 = .ok (.ifCond .eq 12, 3) := by decide +kernel
theorem dX7_sprite_123 : decode cX7_sprite 123 = .ok (.iload 8, 2) := by decide +kernel
theorem dX7_sprite_125 : decode cX7_sprite 125 = .ok (.ifCond .ne 7, 3) := by decide +kernel
theorem dX7_sprite_128 : decode cX7_sprite 128 = .ok (.iconst 0, 1) := by decide +kernel
theorem dX7_sprite_129 : decode cX7_sprite 129 = .ok (.goto 20, 3) := by decide +kernel
theorem dX7_sprite_132 : decode cX7_sprite 132 = .ok (.aload_n 0, 1) := by decide +kernel
theorem dX7_sprite_133 : decode cX7_sprite 133 = .ok (.getfield 36, 3) := by decide +kernel
theorem dX7_sprite_136 : decode cX7_sprite 136 = .ok (.iload_n 1, 1) := by decide +kernel
theorem dX7_sprite_137 : decode cX7_sprite 137 = .ok (.baload, 1) := by decide +kernel
theorem dX7_sprite_138 : decode cX7_sprite 138 = .ok (.ifCond .eq 8, 3) := by decide +kernel
theorem dX7_sprite_141 : decode cX7_sprite 141 = .ok (.bipush 8, 2) := by decide +kernel
theorem dX7_sprite_143 : decode cX7_sprite 143 = .ok (.goto 6, 3) := by decide +kernel
theorem dX7_sprite_146 : decode cX7_sprite 146 = .ok (.iconst 3, 1) := by decide +kernel
theorem dX7_sprite_147 : decode cX7_sprite 147 = .ok (.iload_n 1, 1) := by decide +kernel
theorem dX7_sprite_148 : decode cX7_sprite 148 = .ok (.iadd, 1) := by decide +kernel
theorem dX7_sprite_149 : decode cX7_sprite 149 = .ok (.ireturn, 1) := by decide +kernel
theorem dX7_sprite_150 : decode cX7_sprite 150 = .ok (.iload 9, 2) := by decide +kernel
theorem dX7_sprite_152 : decode cX7_sprite 152 = .ok (.ifCond .eq 18, 3) := by decide +kernel
theorem dX7_sprite_155 : decode cX7_sprite 155 = .ok (.iload 8, 2) := by decide +kernel
theorem dX7_sprite_157 : decode cX7_sprite 157 = .ok (.ifCond .eq 9, 3) := by decide +kernel
theorem dX7_sprite_160 : decode cX7_sprite 160 = .ok (.iload 8, 2) := by decide +kernel
theorem dX7_sprite_162 : decode cX7_sprite 162 = .ok (.iconst 3, 1) := by decide +kernel
theorem dX7_sprite_163 : decode cX7_sprite 163 = .ok (.if_icmp .ne 7, 3) := by decide +kernel
theorem dX7_sprite_166 : decode cX7_sprite 166 = .ok (.iconst 1, 1) := by decide +kernel
theorem dX7_sprite_167 : decode cX7_sprite 167 = .ok (.goto 4, 3) := by decide +kernel
theorem dX7_sprite_170 : decode cX7_sprite 170 = .ok (.iconst 0, 1) := by decide +kernel
theorem dX7_sprite_171 : decode cX7_sprite 171 = .ok (.istore 10, 2) := by decide +kernel
theorem dX7_sprite_173 : decode cX7_sprite 173 = .ok (.aload_n 0, 1) := by decide +kernel
theorem dX7_sprite_174 : decode cX7_sprite 174 = .ok (.getfield 29, 3) := by decide +kernel
theorem dX7_sprite_177 : decode cX7_sprite 177 = .ok (.iconst 0, 1) := by decide +kernel
theorem dX7_sprite_178 : decode cX7_sprite 178 = .ok (.iaload, 1) := by decide +kernel
theorem dX7_sprite_179 : decode cX7_sprite 179 = .ok (.istore 11, 2) := by decide +kernel
theorem dX7_sprite_181 : decode cX7_sprite 181 = .ok (.iload 11, 2) := by decide +kernel
theorem dX7_sprite_183 : decode cX7_sprite 183 = .ok (.iconst 2, 1) := by decide +kernel
theorem dX7_sprite_184 : decode cX7_sprite 184 = .ok (.irem, 1) := by decide +kernel
theorem dX7_sprite_185 : decode cX7_sprite 185 = .ok (.ifCond .ne 31, 3) := by decide +kernel
theorem dX7_sprite_188 : decode cX7_sprite 188 = .ok (.iload 9, 2) := by decide +kernel
theorem dX7_sprite_190 : decode cX7_sprite 190 = .ok (.ifCond .ne 22, 3) := by decide +kernel
theorem dX7_sprite_193 : decode cX7_sprite 193 = .ok (.iload 8, 2) := by decide +kernel
theorem dX7_sprite_195 : decode cX7_sprite 195 = .ok (.iload 11, 2) := by decide +kernel
theorem dX7_sprite_197 : decode cX7_sprite 197 = .ok (.ifCond .ne 7, 3) := by decide +kernel
theorem dX7_sprite_200 : decode cX7_sprite 200 = .ok (.iconst 0, 1) := by decide +kernel
theorem dX7_sprite_201 : decode cX7_sprite 201 = .ok (.goto 4, 3) := by decide +kernel
theorem dX7_sprite_204 : decode cX7_sprite 204 = .ok (.iconst 3, 1) := by decide +kernel
theorem dX7_sprite_205 : decode cX7_sprite 205 = .ok (.if_icmp .ne 7, 3) := by decide +kernel
theorem dX7_sprite_208 : decode cX7_sprite 208 = .ok (.iconst 1, 1) := by decide +kernel
theorem dX7_sprite_209 : decode cX7_sprite 209 = .ok (.goto 39, 3) := by decide +kernel
theorem dX7_sprite_212 : decode cX7_sprite 212 = .ok (.iconst 0, 1) := by decide +kernel
theorem dX7_sprite_213 : decode cX7_sprite 213 = .ok (.goto 35, 3) := by decide +kernel
theorem dX7_sprite_216 : decode cX7_sprite 216 = .ok (.iload 8, 2) := by decide +kernel
theorem dX7_sprite_218 : decode cX7_sprite 218 = .ok (.ifCond .le 29, 3) := by decide +kernel
theorem dX7_sprite_221 : decode cX7_sprite 221 = .ok (.iload 8, 2) := by decide +kernel
theorem dX7_sprite_223 : decode cX7_sprite 223 = .ok (.iconst 3, 1) := by decide +kernel
theorem dX7_sprite_224 : decode cX7_sprite 224 = .ok (.if_icmp .ge 23, 3) := by decide +kernel
theorem dX7_sprite_227 : decode cX7_sprite 227 = .ok (.iload 7, 2) := by decide +kernel
theorem dX7_sprite_229 : decode cX7_sprite 229 = .ok (.iload 11, 2) := by decide +kernel
theorem dX7_sprite_231 : decode cX7_sprite 231 = .ok (.iconst 1, 1) := by decide +kernel
theorem dX7_sprite_232 : decode cX7_sprite 232 = .ok (.if_icmp .ne 7, 3) := by decide +kernel
theorem dX7_sprite_235 : decode cX7_sprite 235 = .ok (.iconst 0, 1) := by decide +kernel
theorem dX7_sprite_236 : decode cX7_sprite 236 = .ok (.goto 4, 3) := by decide +kernel
theorem dX7_sprite_239 : decode cX7_sprite 239 = .ok (.iconst 3, 1) := by decide +kernel
theorem dX7_sprite_240 : decode cX7_sprite 240 = .ok (.if_icmp .ne 7, 3) := by decide +kernel
theorem dX7_sprite_243 : decode cX7_sprite 243 = .ok (.iconst 1, 1) := by decide +kernel
theorem dX7_sprite_244 : decode cX7_sprite 244 = .ok (.goto 4, 3) := by decide +kernel
theorem dX7_sprite_247 : decode cX7_sprite 247 = .ok (.iconst 0, 1) := by decide +kernel
theorem dX7_sprite_248 : decode cX7_sprite 248 = .ok (.istore 12, 2) := by decide +kernel
theorem dX7_sprite_250 : decode cX7_sprite 250 = .ok (.iload 10, 2) := by decide +kernel
theorem dX7_sprite_252 : decode cX7_sprite 252 = .ok (.ifCond .ne 17, 3) := by decide +kernel
theorem dX7_sprite_255 : decode cX7_sprite 255 = .ok (.iload 12, 2) := by decide +kernel
theorem dX7_sprite_257 : decode cX7_sprite 257 = .ok (.ifCond .eq 16, 3) := by decide +kernel
theorem dX7_sprite_260 : decode cX7_sprite 260 = .ok (.aload_n 0, 1) := by decide +kernel
theorem dX7_sprite_261 : decode cX7_sprite 261 = .ok (.getfield 208, 3) := by decide +kernel
theorem dX7_sprite_264 : decode cX7_sprite 264 = .ok (.iconst 4, 1) := by decide +kernel
theorem dX7_sprite_265 : decode cX7_sprite 265 = .ok (.iand, 1) := by decide +kernel
theorem dX7_sprite_266 : decode cX7_sprite 266 = .ok (.ifCond .ne 7, 3) := by decide +kernel
theorem dX7_sprite_269 : decode cX7_sprite 269 = .ok (.iconst 0, 1) := by decide +kernel
theorem dX7_sprite_270 : decode cX7_sprite 270 = .ok (.goto 4, 3) := by decide +kernel
theorem dX7_sprite_273 : decode cX7_sprite 273 = .ok (.iconst 3, 1) := by decide +kernel
theorem dX7_sprite_274 : decode cX7_sprite 274 = .ok (.ireturn, 1) := by decide +kernel
theorem dX7_point_0 : decode cX7_point 0 = .ok (.iload_n 1, 1) := by decide +kernel
theorem dX7_point_1 : decode cX7_point 1 = .ok (.ifCond .lt 19, 3) := by decide +kernel
theorem dX7_point_4 : decode cX7_point 4 = .ok (.iload_n 1, 1) := by decide +kernel
theorem dX7_point_5 : decode cX7_point 5 = .ok (.bipush 51, 2) := by decide +kernel
theorem dX7_point_7 : decode cX7_point 7 = .ok (.if_icmp .gt 13, 3) := by decide +kernel
theorem dX7_point_10 : decode cX7_point 10 = .ok (.iload_n 2, 1) := by decide +kernel
theorem dX7_point_11 : decode cX7_point 11 = .ok (.ifCond .lt 9, 3) := by decide +kernel
theorem dX7_point_14 : decode cX7_point 14 = .ok (.iload_n 2, 1) := by decide +kernel
theorem dX7_point_15 : decode cX7_point 15 = .ok (.bipush 35, 2) := by decide +kernel
theorem dX7_point_17 : decode cX7_point 17 = .ok (.if_icmp .le 5, 3) := by decide +kernel
theorem dX7_point_20 : decode cX7_point 20 = .ok (.iconst (-1), 1) := by decide +kernel
theorem dX7_point_21 : decode cX7_point 21 = .ok (.ireturn, 1) := by decide +kernel
theorem dX7_point_22 : decode cX7_point 22 = .ok (.iconst 0, 1) := by decide +kernel
theorem dX7_point_23 : decode cX7_point 23 = .ok (.istore_n 3, 1) := by decide +kernel
theorem dX7_point_24 : decode cX7_point 24 = .ok (.iload_n 3, 1) := by decide +kernel
theorem dX7_point_25 : decode cX7_point 25 = .ok (.iconst 5, 1) := by decide +kernel
theorem dX7_point_26 : decode cX7_point 26 = .ok (.if_icmp .ge 34, 3) := by decide +kernel
theorem dX7_point_29 : decode cX7_point 29 = .ok (.aload_n 0, 1) := by decide +kernel
theorem dX7_point_30 : decode cX7_point 30 = .ok (.getfield 177, 3) := by decide +kernel
theorem dX7_point_33 : decode cX7_point 33 = .ok (.ifCond .eq 27, 3) := by decide +kernel
theorem dX7_point_36 : decode cX7_point 36 = .ok (.aload_n 0, 1) := by decide +kernel
theorem dX7_point_37 : decode cX7_point 37 = .ok (.iload_n 3, 1) := by decide +kernel
theorem dX7_point_38 : decode cX7_point 38 = .ok (.iload_n 1, 1) := by decide +kernel
theorem dX7_point_39 : decode cX7_point 39 = .ok (.iload_n 2, 1) := by decide +kernel
theorem dX7_point_40 : decode cX7_point 40 = .ok (.invokevirtual 224, 3) := by decide +kernel
theorem dX7_point_43 : decode cX7_point 43 = .ok (.ifCond .le 11, 3) := by decide +kernel
theorem dX7_point_46 : decode cX7_point 46 = .ok (.aload_n 0, 1) := by decide +kernel
theorem dX7_point_47 : decode cX7_point 47 = .ok (.iload_n 3, 1) := by decide +kernel
theorem dX7_point_48 : decode cX7_point 48 = .ok (.iload_n 1, 1) := by decide +kernel
theorem dX7_point_49 : decode cX7_point 49 = .ok (.iload_n 2, 1) := by decide +kernel
theorem dX7_point_50 : decode cX7_point 50 = .ok (.invokevirtual 224, 3) := by decide +kernel
theorem dX7_point_53 : decode cX7_point 53 = .ok (.ireturn, 1) := by decide +kernel
theorem dX7_point_54 : decode cX7_point 54 = .ok (.iinc 3 1, 3) := by decide +kernel
theorem dX7_point_57 : decode cX7_point 57 = .ok (.goto (-33), 3) := by decide +kernel
theorem dX7_point_60 : decode cX7_point 60 = .ok (.aload_n 0, 1) := by decide +kernel
theorem dX7_point_61 : decode cX7_point 61 = .ok (.getfield 13, 3) := by decide +kernel
theorem dX7_point_64 : decode cX7_point 64 = .ok (.bipush 13, 2) := by decide +kernel
theorem dX7_point_66 : decode cX7_point 66 = .ok (.iload_n 2, 1) := by decide +kernel
theorem dX7_point_67 : decode cX7_point 67 = .ok (.iconst 4, 1) := by decide +kernel
theorem dX7_point_68 : decode cX7_point 68 = .ok (.idiv, 1) := by decide +kernel
theorem dX7_point_69 : decode cX7_point 69 = .ok (.imul, 1) := by decide +kernel
theorem dX7_point_70 : decode cX7_point 70 = .ok (.iload_n 1, 1) := by decide +kernel
theorem dX7_point_71 : decode cX7_point 71 = .ok (.iconst 4, 1) := by decide +kernel
theorem dX7_point_72 : decode cX7_point 72 = .ok (.idiv, 1) := by decide +kernel
theorem dX7_point_73 : decode cX7_point 73 = .ok (.iadd, 1) := by decide +kernel
theorem dX7_point_74 : decode cX7_point 74 = .ok (.iaload, 1) := by decide +kernel
theorem dX7_point_75 : decode cX7_point 75 = .ok (.istore_n 3, 1) := by decide +kernel
theorem dX7_point_76 : decode cX7_point 76 = .ok (.iload_n 1, 1) := by decide +kernel
theorem dX7_point_77 : decode cX7_point 77 = .ok (.iconst 4, 1) := by decide +kernel
theorem dX7_point_78 : decode cX7_point 78 = .ok (.irem, 1) := by decide +kernel
theorem dX7_point_79 : decode cX7_point 79 = .ok (.istore 4, 2) := by decide +kernel
theorem dX7_point_81 : decode cX7_point 81 = .ok (.iload_n 2, 1) := by decide +kernel
theorem dX7_point_82 : decode cX7_point 82 = .ok (.iconst 4, 1) := by decide +kernel
theorem dX7_point_83 : decode cX7_point 83 = .ok (.irem, 1) := by decide +kernel
theorem dX7_point_84 : decode cX7_point 84 = .ok (.istore 5, 2) := by decide +kernel
theorem dX7_point_86 : decode cX7_point 86 = .ok (.iload_n 3, 1) := by decide +kernel
theorem dX7_point_87 : decode cX7_point 87 = .ok (.iconst 1, 1) := by decide +kernel
theorem dX7_point_88 : decode cX7_point 88 = .ok (.if_icmp .ne 5, 3) := by decide +kernel
theorem dX7_point_91 : decode cX7_point 91 = .ok (.iconst 1, 1) := by decide +kernel
theorem dX7_point_92 : decode cX7_point 92 = .ok (.ireturn, 1) := by decide +kernel
theorem dX7_point_93 : decode cX7_point 93 = .ok (.iload_n 3, 1) := by decide +kernel
theorem dX7_point_94 : decode cX7_point 94 = .ok (.iconst 2, 1) := by decide +kernel
theorem dX7_point_95 : decode cX7_point 95 = .ok (.if_icmp .ne 21, 3) := by decide +kernel
theorem dX7_point_98 : decode cX7_point 98 = .ok (.iload 4, 2) := by decide +kernel
theorem dX7_point_100 : decode cX7_point 100 = .ok (.iconst 1, 1) := by decide +kernel
theorem dX7_point_101 : decode cX7_point 101 = .ok (.if_icmp .ne 13, 3) := by decide +kernel
theorem dX7_point_104 : decode cX7_point 104 = .ok (.iload 5, 2) := by decide +kernel
theorem dX7_point_106 : decode cX7_point 106 = .ok (.iconst 1, 1) := by decide +kernel
theorem dX7_point_107 : decode cX7_point 107 = .ok (.if_icmp .ne 7, 3) := by decide +kernel
theorem dX7_point_110 : decode cX7_point 110 = .ok (.iconst 2, 1) := by decide +kernel
theorem dX7_point_111 : decode cX7_point 111 = .ok (.goto 4, 3) := by decide +kernel
theorem dX7_point_114 : decode cX7_point 114 = .ok (.iconst 0, 1) := by decide +kernel
theorem dX7_point_115 : decode cX7_point 115 = .ok (.ireturn, 1) := by decide +kernel
theorem dX7_point_116 : decode cX7_point 116 = .ok (.iload_n 3, 1) := by decide +kernel
theorem dX7_point_117 : decode cX7_point 117 = .ok (.iconst 3, 1) := by decide +kernel
theorem dX7_point_118 : decode cX7_point 118 = .ok (.if_icmp .ne 41, 3) := by decide +kernel
theorem dX7_point_121 : decode cX7_point 121 = .ok (.iload 4, 2) := by decide +kernel
theorem dX7_point_123 : decode cX7_point 123 = .ok (.ifCond .le 34, 3) := by decide +kernel
theorem dX7_point_126 : decode cX7_point 126 = .ok (.iload 4, 2) := by decide +kernel
theorem dX7_point_128 : decode cX7_point 128 = .ok (.iconst 3, 1) := by decide +kernel
theorem dX7_point_129 : decode cX7_point 129 = .ok (.if_icmp .ge 28, 3) := by decide +kernel
theorem dX7_point_132 : decode cX7_point 132 = .ok (.iload 5, 2) := by decide +kernel
theorem dX7_point_134 : decode cX7_point 134 = .ok (.ifCond .le 23, 3) := by decide +kernel
theorem dX7_point_137 : decode cX7_point 137 = .ok (.iload 5, 2) := by decide +kernel
theorem dX7_point_139 : decode cX7_point 139 = .ok (.iconst 3, 1) := by decide +kernel
theorem dX7_point_140 : decode cX7_point 140 = .ok (.if_icmp .ge 17, 3) := by decide +kernel
theorem dX7_point_143 : decode cX7_point 143 = .ok (.aload_n 0, 1) := by decide +kernel
theorem dX7_point_144 : decode cX7_point 144 = .ok (.getfield 208, 3) := by decide +kernel
theorem dX7_point_147 : decode cX7_point 147 = .ok (.bipush 8, 2) := by decide +kernel
theorem dX7_point_149 : decode cX7_point 149 = .ok (.iand, 1) := by decide +kernel
theorem dX7_point_150 : decode cX7_point 150 = .ok (.ifCond .ne 7, 3) := by decide +kernel
theorem dX7_point_153 : decode cX7_point 153 = .ok (.iconst 2, 1) := by decide +kernel
theorem dX7_point_154 : decode cX7_point 154 = .ok (.goto 4, 3) := by decide +kernel
theorem dX7_point_157 : decode cX7_point 157 = .ok (.iconst 0, 1) := by decide +kernel
theorem dX7_point_158 : decode cX7_point 158 = .ok (.ireturn, 1) := by decide +kernel
theorem dX7_point_159 : decode cX7_point 159 = .ok (.iload_n 3, 1) := by decide +kernel
theorem dX7_point_160 : decode cX7_point 160 = .ok (.iconst 4, 1) := by decide +kernel
theorem dX7_point_161 : decode cX7_point 161 = .ok (.if_icmp .ne 13, 3) := by decide +kernel
theorem dX7_point_164 : decode cX7_point 164 = .ok (.iload 5, 2) := by decide +kernel
theorem dX7_point_166 : decode cX7_point 166 = .ok (.ifCond .ne 8, 3) := by decide +kernel
theorem dX7_point_169 : decode cX7_point 169 = .ok (.bipush 9, 2) := by decide +kernel
theorem dX7_point_171 : decode cX7_point 171 = .ok (.goto 4, 3) := by decide +kernel
theorem dX7_point_174 : decode cX7_point 174 = .ok (.iconst 0, 1) := by decide +kernel
theorem dX7_point_175 : decode cX7_point 175 = .ok (.ireturn, 1) := by decide +kernel
theorem dX7_volume_0 : decode cX7_volume 0 = .ok (.iload_n 1, 1) := by decide +kernel
theorem dX7_volume_1 : decode cX7_volume 1 = .ok (.ifCond .lt 8, 3) := by decide +kernel
theorem dX7_volume_4 : decode cX7_volume 4 = .ok (.iload_n 1, 1) := by decide +kernel
theorem dX7_volume_5 : decode cX7_volume 5 = .ok (.iconst 2, 1) := by decide +kernel
theorem dX7_volume_6 : decode cX7_volume 6 = .ok (.if_icmp .le 7, 3) := by decide +kernel
theorem dX7_volume_9 : decode cX7_volume 9 = .ok (.fconst 0, 1) := by decide +kernel
theorem dX7_volume_10 : decode cX7_volume 10 = .ok (.goto 9, 3) := by decide +kernel
theorem dX7_volume_13 : decode cX7_volume 13 = .ok (.aload_n 0, 1) := by decide +kernel
theorem dX7_volume_14 : decode cX7_volume 14 = .ok (.getfield 58, 3) := by decide +kernel
theorem dX7_volume_17 : decode cX7_volume 17 = .ok (.iload_n 1, 1) := by decide +kernel
theorem dX7_volume_18 : decode cX7_volume 18 = .ok (.faload, 1) := by decide +kernel
theorem dX7_volume_19 : decode cX7_volume 19 = .ok (.freturn, 1) := by decide +kernel
theorem dX7_sound_0 : decode cX7_sound 0 = .ok (.fconst 0, 1) := by decide +kernel
theorem dX7_sound_1 : decode cX7_sound 1 = .ok (.fstore_n 1, 1) := by decide +kernel
theorem dX7_sound_2 : decode cX7_sound 2 = .ok (.iconst 0, 1) := by decide +kernel
theorem dX7_sound_3 : decode cX7_sound 3 = .ok (.istore_n 2, 1) := by decide +kernel
theorem dX7_sound_4 : decode cX7_sound 4 = .ok (.iload_n 2, 1) := by decide +kernel
theorem dX7_sound_5 : decode cX7_sound 5 = .ok (.iconst 3, 1) := by decide +kernel
theorem dX7_sound_6 : decode cX7_sound 6 = .ok (.if_icmp .ge 35, 3) := by decide +kernel
theorem dX7_sound_9 : decode cX7_sound 9 = .ok (.fload_n 1, 1) := by decide +kernel
theorem dX7_sound_10 : decode cX7_sound 10 = .ok (.aload_n 0, 1) := by decide +kernel
theorem dX7_sound_11 : decode cX7_sound 11 = .ok (.getfield 52, 3) := by decide +kernel
theorem dX7_sound_14 : decode cX7_sound 14 = .ok (.iload_n 2, 1) := by decide +kernel
theorem dX7_sound_15 : decode cX7_sound 15 = .ok (.iaload, 1) := by decide +kernel
theorem dX7_sound_16 : decode cX7_sound 16 = .ok (.bipush 8, 2) := by decide +kernel
theorem dX7_sound_18 : decode cX7_sound 18 = .ok (.ishr, 1) := by decide +kernel
theorem dX7_sound_19 : decode cX7_sound 19 = .ok (.bipush 15, 2) := by decide +kernel
theorem dX7_sound_21 : decode cX7_sound 21 = .ok (.iand, 1) := by decide +kernel
theorem dX7_sound_22 : decode cX7_sound 22 = .ok (.i2f, 1) := by decide +kernel
theorem dX7_sound_23 : decode cX7_sound 23 = .ok (.ldc 228, 2) := by decide +kernel
theorem dX7_sound_25 : decode cX7_sound 25 = .ok (.fsub, 1) := by decide +kernel
theorem dX7_sound_26 : decode cX7_sound 26 = .ok (.aload_n 0, 1) := by decide +kernel
theorem dX7_sound_27 : decode cX7_sound 27 = .ok (.getfield 58, 3) := by decide +kernel
theorem dX7_sound_30 : decode cX7_sound 30 = .ok (.iload_n 2, 1) := by decide +kernel
theorem dX7_sound_31 : decode cX7_sound 31 = .ok (.faload, 1) := by decide +kernel
theorem dX7_sound_32 : decode cX7_sound 32 = .ok (.fmul, 1) := by decide +kernel
theorem dX7_sound_33 : decode cX7_sound 33 = .ok (.fadd, 1) := by decide +kernel
theorem dX7_sound_34 : decode cX7_sound 34 = .ok (.fstore_n 1, 1) := by decide +kernel
theorem dX7_sound_35 : decode cX7_sound 35 = .ok (.iinc 2 1, 3) := by decide +kernel
theorem dX7_sound_38 : decode cX7_sound 38 = .ok (.goto (-34), 3) := by decide +kernel
theorem dX7_sound_41 : decode cX7_sound 41 = .ok (.fload_n 1, 1) := by decide +kernel
theorem dX7_sound_42 : decode cX7_sound 42 = .ok (.freturn, 1) := by decide +kernel
theorem dJ9_floorMod_7cf53_0 : decode cJ9_floorMod_7cf53 0 = .ok (.iload_n 0, 1) := by decide +kernel
theorem dJ9_floorMod_7cf53_1 : decode cJ9_floorMod_7cf53 1 = .ok (.iload_n 1, 1) := by decide +kernel
theorem dJ9_floorMod_7cf53_2 : decode cJ9_floorMod_7cf53 2 = .ok (.irem, 1) := by decide +kernel
theorem dJ9_floorMod_7cf53_3 : decode cJ9_floorMod_7cf53 3 = .ok (.istore_n 2, 1) := by decide +kernel
theorem dJ9_floorMod_7cf53_4 : decode cJ9_floorMod_7cf53 4 = .ok (.iload_n 0, 1) := by decide +kernel
theorem dJ9_floorMod_7cf53_5 : decode cJ9_floorMod_7cf53 5 = .ok (.iload_n 1, 1) := by decide +kernel
theorem dJ9_floorMod_7cf53_6 : decode cJ9_floorMod_7cf53 6 = .ok (.ixor, 1) := by decide +kernel
theorem dJ9_floorMod_7cf53_7 : decode cJ9_floorMod_7cf53 7 = .ok (.ifCond .ge 11, 3) := by decide +kernel
theorem dJ9_floorMod_7cf53_10 : decode cJ9_floorMod_7cf53 10 = .ok (.iload_n 2, 1) := by decide +kernel
theorem dJ9_floorMod_7cf53_11 : decode cJ9_floorMod_7cf53 11 = .ok (.ifCond .eq 7, 3) := by decide +kernel
theorem dJ9_floorMod_7cf53_14 : decode cJ9_floorMod_7cf53 14 = .ok (.iload_n 2, 1) := by decide +kernel
theorem dJ9_floorMod_7cf53_15 : decode cJ9_floorMod_7cf53 15 = .ok (.iload_n 1, 1) := by decide +kernel
theorem dJ9_floorMod_7cf53_16 : decode cJ9_floorMod_7cf53 16 = .ok (.iadd, 1) := by decide +kernel
theorem dJ9_floorMod_7cf53_17 : decode cJ9_floorMod_7cf53 17 = .ok (.ireturn, 1) := by decide +kernel
theorem dJ9_floorMod_7cf53_18 : decode cJ9_floorMod_7cf53 18 = .ok (.iload_n 2, 1) := by decide +kernel
theorem dJ9_floorMod_7cf53_19 : decode cJ9_floorMod_7cf53 19 = .ok (.ireturn, 1) := by decide +kernel
theorem dJ9_max_7cf53_0 : decode cJ9_max_7cf53 0 = .ok (.iload_n 0, 1) := by decide +kernel
theorem dJ9_max_7cf53_1 : decode cJ9_max_7cf53 1 = .ok (.iload_n 1, 1) := by decide +kernel
theorem dJ9_max_7cf53_2 : decode cJ9_max_7cf53 2 = .ok (.if_icmp .lt 7, 3) := by decide +kernel
theorem dJ9_max_7cf53_5 : decode cJ9_max_7cf53 5 = .ok (.iload_n 0, 1) := by decide +kernel
theorem dJ9_max_7cf53_6 : decode cJ9_max_7cf53 6 = .ok (.goto 4, 3) := by decide +kernel
theorem dJ9_max_7cf53_9 : decode cJ9_max_7cf53 9 = .ok (.iload_n 1, 1) := by decide +kernel
theorem dJ9_max_7cf53_10 : decode cJ9_max_7cf53 10 = .ok (.ireturn, 1) := by decide +kernel
theorem dJ9_min_7cf53_0 : decode cJ9_min_7cf53 0 = .ok (.iload_n 0, 1) := by decide +kernel
theorem dJ9_min_7cf53_1 : decode cJ9_min_7cf53 1 = .ok (.iload_n 1, 1) := by decide +kernel
theorem dJ9_min_7cf53_2 : decode cJ9_min_7cf53 2 = .ok (.if_icmp .gt 7, 3) := by decide +kernel
theorem dJ9_min_7cf53_5 : decode cJ9_min_7cf53 5 = .ok (.iload_n 0, 1) := by decide +kernel
theorem dJ9_min_7cf53_6 : decode cJ9_min_7cf53 6 = .ok (.goto 4, 3) := by decide +kernel
theorem dJ9_min_7cf53_9 : decode cJ9_min_7cf53 9 = .ok (.iload_n 1, 1) := by decide +kernel
theorem dJ9_min_7cf53_10 : decode cJ9_min_7cf53 10 = .ok (.ireturn, 1) := by decide +kernel
