theorem dX7_distance_0 : decode cX7_distance 0 = .ok (.iload_n 0, 1) := by decide +kernel
theorem dX7_distance_1 : decode cX7_distance 1 = .ok (.iload_n 2, 1) := by decide +kernel
theorem dX7_distance_2 : decode cX7_distance 2 = .ok (.isub, 1) := by decide +kernel
theorem dX7_distance_3 : decode cX7_distance 3 = .ok (.iload_n 0, 1) := by decide +kernel
theorem dX7_distance_4 : decode cX7_distance 4 = .ok (.iload_n 2, 1) := by decide +kernel
theorem dX7_distance_5 : decode cX7_distance 5 = .ok (.isub, 1) := by decide +kernel
theorem dX7_distance_6 : decode cX7_distance 6 = .ok (.imul, 1) := by decide +kernel
theorem dX7_distance_7 : decode cX7_distance 7 = .ok (.iload_n 1, 1) := by decide +kernel
theorem dX7_distance_8 : decode cX7_distance 8 = .ok (.iload_n 3, 1) := by decide +kernel
theorem dX7_distance_9 : decode cX7_distance 9 = .ok (.isub, 1) := by decide +kernel
theorem dX7_distance_10 : decode cX7_distance 10 = .ok (.iload_n 1, 1) := by decide +kernel
theorem dX7_distance_11 : decode cX7_distance 11 = .ok (.iload_n 3, 1) := by decide +kernel
theorem dX7_distance_12 : decode cX7_distance 12 = .ok (.isub, 1) := by decide +kernel
theorem dX7_distance_13 : decode cX7_distance 13 = .ok (.imul, 1) := by decide +kernel
theorem dX7_distance_14 : decode cX7_distance 14 = .ok (.iadd, 1) := by decide +kernel
theorem dX7_distance_15 : decode cX7_distance 15 = .ok (.ireturn, 1) := by decide +kernel
theorem dX7_cornerColumn_0 : decode cX7_cornerColumn 0 = .ok (.iload_n 0, 1) := by decide +kernel
theorem dX7_cornerColumn_1 : decode cX7_cornerColumn 1 = .ok (.iconst 2, 1) := by decide +kernel
theorem dX7_cornerColumn_2 : decode cX7_cornerColumn 2 = .ok (.irem, 1) := by decide +kernel
theorem dX7_cornerColumn_3 : decode cX7_cornerColumn 3 = .ok (.iconst 1, 1) := by decide +kernel
theorem dX7_cornerColumn_4 : decode cX7_cornerColumn 4 = .ok (.if_icmp .ne 8, 3) := by decide +kernel
theorem dX7_cornerColumn_7 : decode cX7_cornerColumn 7 = .ok (.bipush 11, 2) := by decide +kernel
theorem dX7_cornerColumn_9 : decode cX7_cornerColumn 9 = .ok (.goto 4, 3) := by decide +kernel
theorem dX7_cornerColumn_12 : decode cX7_cornerColumn 12 = .ok (.iconst 1, 1) := by decide +kernel
theorem dX7_cornerColumn_13 : decode cX7_cornerColumn 13 = .ok (.ireturn, 1) := by decide +kernel
theorem dX7_cornerRow_0 : decode cX7_cornerRow 0 = .ok (.iload_n 0, 1) := by decide +kernel
theorem dX7_cornerRow_1 : decode cX7_cornerRow 1 = .ok (.iconst 3, 1) := by decide +kernel
theorem dX7_cornerRow_2 : decode cX7_cornerRow 2 = .ok (.if_icmp .ge 7, 3) := by decide +kernel
theorem dX7_cornerRow_5 : decode cX7_cornerRow 5 = .ok (.iconst 1, 1) := by decide +kernel
theorem dX7_cornerRow_6 : decode cX7_cornerRow 6 = .ok (.goto 5, 3) := by decide +kernel
theorem dX7_cornerRow_9 : decode cX7_cornerRow 9 = .ok (.bipush 7, 2) := by decide +kernel
theorem dX7_cornerRow_11 : decode cX7_cornerRow 11 = .ok (.ireturn, 1) := by decide +kernel
theorem dX7_choose_0 : decode cX7_choose 0 = .ok (.aload_n 0, 1) := by decide +kernel
theorem dX7_choose_1 : decode cX7_choose 1 = .ok (.getfield 29, 3) := by decide +kernel
theorem dX7_choose_4 : decode cX7_choose 4 = .ok (.iload_n 1, 1) := by decide +kernel
theorem dX7_choose_5 : decode cX7_choose 5 = .ok (.iaload, 1) := by decide +kernel
theorem dX7_choose_6 : decode cX7_choose 6 = .ok (.iconst 2, 1) := by decide +kernel
theorem dX7_choose_7 : decode cX7_choose 7 = .ok (.iadd, 1) := by decide +kernel
theorem dX7_choose_8 : decode cX7_choose 8 = .ok (.iconst 3, 1) := by decide +kernel
theorem dX7_choose_9 : decode cX7_choose 9 = .ok (.iand, 1) := by decide +kernel
theorem dX7_choose_10 : decode cX7_choose 10 = .ok (.istore_n 2, 1) := by decide +kernel
theorem dX7_choose_11 : decode cX7_choose 11 = .ok (.iconst 0, 1) := by decide +kernel
theorem dX7_choose_12 : decode cX7_choose 12 = .ok (.istore_n 3, 1) := by decide +kernel
theorem dX7_choose_13 : decode cX7_choose 13 = .ok (.iconst 0, 1) := by decide +kernel
theorem dX7_choose_14 : decode cX7_choose 14 = .ok (.istore 4, 2) := by decide +kernel
theorem dX7_choose_16 : decode cX7_choose 16 = .ok (.iload 4, 2) := by decide +kernel
theorem dX7_choose_18 : decode cX7_choose 18 = .ok (.iconst 4, 1) := by decide +kernel
theorem dX7_choose_19 : decode cX7_choose 19 = .ok (.if_icmp .ge 36, 3) := by decide +kernel
theorem dX7_choose_22 : decode cX7_choose 22 = .ok (.iload 4, 2) := by decide +kernel
theorem dX7_choose_24 : decode cX7_choose 24 = .ok (.iload_n 2, 1) := by decide +kernel
theorem dX7_choose_25 : decode cX7_choose 25 = .ok (.if_icmp .eq 22, 3) := by decide +kernel
theorem dX7_choose_28 : decode cX7_choose 28 = .ok (.aload_n 0, 1) := by decide +kernel
theorem dX7_choose_29 : decode cX7_choose 29 = .ok (.iload_n 1, 1) := by decide +kernel
theorem dX7_choose_30 : decode cX7_choose 30 = .ok (.iload 4, 2) := by decide +kernel
theorem dX7_choose_32 : decode cX7_choose 32 = .ok (.invokevirtual 114, 3) := by decide +kernel
theorem dX7_choose_35 : decode cX7_choose 35 = .ok (.ifCond .eq 12, 3) := by decide +kernel
theorem dX7_choose_38 : decode cX7_choose 38 = .ok (.iload_n 3, 1) := by decide +kernel
theorem dX7_choose_39 : decode cX7_choose 39 = .ok (.iconst 1, 1) := by decide +kernel
theorem dX7_choose_40 : decode cX7_choose 40 = .ok (.iload 4, 2) := by decide +kernel
theorem dX7_choose_42 : decode cX7_choose 42 = .ok (.ishl, 1) := by decide +kernel
theorem dX7_choose_43 : decode cX7_choose 43 = .ok (.ior, 1) := by decide +kernel
theorem dX7_choose_44 : decode cX7_choose 44 = .ok (.goto 4, 3) := by decide +kernel
theorem dX7_choose_47 : decode cX7_choose 47 = .ok (.iload_n 3, 1) := by decide +kernel
theorem dX7_choose_48 : decode cX7_choose 48 = .ok (.istore_n 3, 1) := by decide +kernel
theorem dX7_choose_49 : decode cX7_choose 49 = .ok (.iinc 4 1, 3) := by decide +kernel
theorem dX7_choose_52 : decode cX7_choose 52 = .ok (.goto (-36), 3) := by decide +kernel
theorem dX7_choose_55 : decode cX7_choose 55 = .ok (.iload_n 3, 1) := by decide +kernel
theorem dX7_choose_56 : decode cX7_choose 56 = .ok (.ifCond .ne 7, 3) := by decide +kernel
theorem dX7_choose_59 : decode cX7_choose 59 = .ok (.iconst 1, 1) := by decide +kernel
theorem dX7_choose_60 : decode cX7_choose 60 = .ok (.iload_n 2, 1) := by decide +kernel
theorem dX7_choose_61 : decode cX7_choose 61 = .ok (.ishl, 1) := by decide +kernel
theorem dX7_choose_62 : decode cX7_choose 62 = .ok (.istore_n 3, 1) := by decide +kernel
theorem dX7_choose_63 : decode cX7_choose 63 = .ok (.aload_n 0, 1) := by decide +kernel
theorem dX7_choose_64 : decode cX7_choose 64 = .ok (.getfield 36, 3) := by decide +kernel
theorem dX7_choose_67 : decode cX7_choose 67 = .ok (.iload_n 1, 1) := by decide +kernel
theorem dX7_choose_68 : decode cX7_choose 68 = .ok (.baload, 1) := by decide +kernel
theorem dX7_choose_69 : decode cX7_choose 69 = .ok (.ifCond .eq 10, 3) := by decide +kernel
theorem dX7_choose_72 : decode cX7_choose 72 = .ok (.aload_n 0, 1) := by decide +kernel
theorem dX7_choose_73 : decode cX7_choose 73 = .ok (.invokevirtual 147, 3) := by decide +kernel
theorem dX7_choose_76 : decode cX7_choose 76 = .ok (.goto 4, 3) := by decide +kernel
theorem dX7_choose_79 : decode cX7_choose 79 = .ok (.iconst 0, 1) := by decide +kernel
theorem dX7_choose_80 : decode cX7_choose 80 = .ok (.istore 4, 2) := by decide +kernel
theorem dX7_choose_82 : decode cX7_choose 82 = .ok (.aload_n 0, 1) := by decide +kernel
theorem dX7_choose_83 : decode cX7_choose 83 = .ok (.iload_n 1, 1) := by decide +kernel
theorem dX7_choose_84 : decode cX7_choose 84 = .ok (.iconst 1, 1) := by decide +kernel
theorem dX7_choose_85 : decode cX7_choose 85 = .ok (.invokevirtual 151, 3) := by decide +kernel
theorem dX7_choose_88 : decode cX7_choose 88 = .ok (.istore 5, 2) := by decide +kernel
theorem dX7_choose_90 : decode cX7_choose 90 = .ok (.aload_n 0, 1) := by decide +kernel
theorem dX7_choose_91 : decode cX7_choose 91 = .ok (.iload_n 1, 1) := by decide +kernel
theorem dX7_choose_92 : decode cX7_choose 92 = .ok (.iconst 0, 1) := by decide +kernel
theorem dX7_choose_93 : decode cX7_choose 93 = .ok (.invokevirtual 151, 3) := by decide +kernel
theorem dX7_choose_96 : decode cX7_choose 96 = .ok (.istore 6, 2) := by decide +kernel
theorem dX7_choose_98 : decode cX7_choose 98 = .ok (.iconst (-1), 1) := by decide +kernel
theorem dX7_choose_99 : decode cX7_choose 99 = .ok (.istore 7, 2) := by decide +kernel
theorem dX7_choose_101 : decode cX7_choose 101 = .ok (.iconst 0, 1) := by decide +kernel
theorem dX7_choose_102 : decode cX7_choose 102 = .ok (.istore 8, 2) := by decide +kernel
theorem dX7_choose_104 : decode cX7_choose 104 = .ok (.iconst 0, 1) := by decide +kernel
theorem dX7_choose_105 : decode cX7_choose 105 = .ok (.istore 9, 2) := by decide +kernel
theorem dX7_choose_107 : decode cX7_choose 107 = .ok (.iload 9, 2) := by decide +kernel
theorem dX7_choose_109 : decode cX7_choose 109 = .ok (.iconst 4, 1) := by decide +kernel
theorem dX7_choose_110 : decode cX7_choose 110 = .ok (.if_icmp .ge 84, 3) := by decide +kernel
theorem dX7_choose_113 : decode cX7_choose 113 = .ok (.iload 4, 2) := by decide +kernel
theorem dX7_choose_115 : decode cX7_choose 115 = .ok (.iload 9, 2) := by decide +kernel
theorem dX7_choose_117 : decode cX7_choose 117 = .ok (.iadd, 1) := by decide +kernel
theorem dX7_choose_118 : decode cX7_choose 118 = .ok (.iconst 3, 1) := by decide +kernel
theorem dX7_choose_119 : decode cX7_choose 119 = .ok (.iand, 1) := by decide +kernel
theorem dX7_choose_120 : decode cX7_choose 120 = .ok (.istore 10, 2) := by decide +kernel
theorem dX7_choose_122 : decode cX7_choose 122 = .ok (.iload_n 3, 1) := by decide +kernel
theorem dX7_choose_123 : decode cX7_choose 123 = .ok (.iload 10, 2) := by decide +kernel
theorem dX7_choose_125 : decode cX7_choose 125 = .ok (.ishr, 1) := by decide +kernel
theorem dX7_choose_126 : decode cX7_choose 126 = .ok (.iconst 1, 1) := by decide +kernel
theorem dX7_choose_127 : decode cX7_choose 127 = .ok (.iand, 1) := by decide +kernel
theorem dX7_choose_128 : decode cX7_choose 128 = .ok (.iconst 1, 1) := by decide +kernel
theorem dX7_choose_129 : decode cX7_choose 129 = .ok (.if_icmp .ne 59, 3) := by decide +kernel
theorem dX7_choose_132 : decode cX7_choose 132 = .ok (.aload_n 0, 1) := by decide +kernel
theorem dX7_choose_133 : decode cX7_choose 133 = .ok (.getfield 36, 3) := by decide +kernel
theorem dX7_choose_136 : decode cX7_choose 136 = .ok (.iload_n 1, 1) := by decide +kernel
theorem dX7_choose_137 : decode cX7_choose 137 = .ok (.baload, 1) := by decide +kernel
theorem dX7_choose_138 : decode cX7_choose 138 = .ok (.ifCond .eq 7, 3) := by decide +kernel
theorem dX7_choose_141 : decode cX7_choose 141 = .ok (.iconst 0, 1) := by decide +kernel
theorem dX7_choose_142 : decode cX7_choose 142 = .ok (.goto 24, 3) := by decide +kernel
theorem dX7_choose_145 : decode cX7_choose 145 = .ok (.aload_n 0, 1) := by decide +kernel
theorem dX7_choose_146 : decode cX7_choose 146 = .ok (.iload_n 1, 1) := by decide +kernel
theorem dX7_choose_147 : decode cX7_choose 147 = .ok (.iload 10, 2) := by decide +kernel
theorem dX7_choose_149 : decode cX7_choose 149 = .ok (.invokevirtual 98, 3) := by decide +kernel
theorem dX7_choose_152 : decode cX7_choose 152 = .ok (.aload_n 0, 1) := by decide +kernel
theorem dX7_choose_153 : decode cX7_choose 153 = .ok (.iload_n 1, 1) := by decide +kernel
theorem dX7_choose_154 : decode cX7_choose 154 = .ok (.iload 10, 2) := by decide +kernel
theorem dX7_choose_156 : decode cX7_choose 156 = .ok (.invokevirtual 94, 3) := by decide +kernel
theorem dX7_choose_159 : decode cX7_choose 159 = .ok (.iload 5, 2) := by decide +kernel
theorem dX7_choose_161 : decode cX7_choose 161 = .ok (.iload 6, 2) := by decide +kernel
theorem dX7_choose_163 : decode cX7_choose 163 = .ok (.invokestatic 155, 3) := by decide +kernel
theorem dX7_choose_166 : decode cX7_choose 166 = .ok (.istore 11, 2) := by decide +kernel
theorem dX7_choose_168 : decode cX7_choose 168 = .ok (.iload 7, 2) := by decide +kernel
theorem dX7_choose_170 : decode cX7_choose 170 = .ok (.ifCond .lt 10, 3) := by decide +kernel
theorem dX7_choose_173 : decode cX7_choose 173 = .ok (.iload 11, 2) := by decide +kernel
theorem dX7_choose_175 : decode cX7_choose 175 = .ok (.iload 8, 2) := by decide +kernel
theorem dX7_choose_177 : decode cX7_choose 177 = .ok (.if_icmp .ge 11, 3) := by decide +kernel
theorem dX7_choose_180 : decode cX7_choose 180 = .ok (.iload 10, 2) := by decide +kernel
theorem dX7_choose_182 : decode cX7_choose 182 = .ok (.istore 7, 2) := by decide +kernel
theorem dX7_choose_184 : decode cX7_choose 184 = .ok (.iload 11, 2) := by decide +kernel
theorem dX7_choose_186 : decode cX7_choose 186 = .ok (.istore 8, 2) := by decide +kernel
theorem dX7_choose_188 : decode cX7_choose 188 = .ok (.iinc 9 1, 3) := by decide +kernel
theorem dX7_choose_191 : decode cX7_choose 191 = .ok (.goto (-84), 3) := by decide +kernel
theorem dX7_choose_194 : decode cX7_choose 194 = .ok (.aload_n 0, 1) := by decide +kernel
theorem dX7_choose_195 : decode cX7_choose 195 = .ok (.getfield 29, 3) := by decide +kernel
theorem dX7_choose_198 : decode cX7_choose 198 = .ok (.iload_n 1, 1) := by decide +kernel
theorem dX7_choose_199 : decode cX7_choose 199 = .ok (.iload 7, 2) := by decide +kernel
theorem dX7_choose_201 : decode cX7_choose 201 = .ok (.ifCond .ge 12, 3) := by decide +kernel
theorem dX7_choose_204 : decode cX7_choose 204 = .ok (.aload_n 0, 1) := by decide +kernel
theorem dX7_choose_205 : decode cX7_choose 205 = .ok (.getfield 29, 3) := by decide +kernel
theorem dX7_choose_208 : decode cX7_choose 208 = .ok (.iload_n 1, 1) := by decide +kernel
theorem dX7_choose_209 : decode cX7_choose 209 = .ok (.iaload, 1) := by decide +kernel
theorem dX7_choose_210 : decode cX7_choose 210 = .ok (.goto 5, 3) := by decide +kernel
theorem dX7_choose_213 : decode cX7_choose 213 = .ok (.iload 7, 2) := by decide +kernel
theorem dX7_choose_215 : decode cX7_choose 215 = .ok (.iastore, 1) := by decide +kernel
theorem dX7_choose_216 : decode cX7_choose 216 = .ok (.return_, 1) := by decide +kernel
theorem dX7_drawn_0 : decode cX7_drawn 0 = .ok (.aload_n 0, 1) := by decide +kernel
theorem dX7_drawn_1 : decode cX7_drawn 1 = .ok (.aload_n 0, 1) := by decide +kernel
theorem dX7_drawn_2 : decode cX7_drawn 2 = .ok (.getfield 16, 3) := by decide +kernel
theorem dX7_drawn_5 : decode cX7_drawn 5 = .ok (.ldc 159, 2) := by decide +kernel
theorem dX7_drawn_7 : decode cX7_drawn 7 = .ok (.imul, 1) := by decide +kernel
theorem dX7_drawn_8 : decode cX7_drawn 8 = .ok (.sipush 12345, 3) := by decide +kernel
theorem dX7_drawn_11 : decode cX7_drawn 11 = .ok (.iadd, 1) := by decide +kernel
theorem dX7_drawn_12 : decode cX7_drawn 12 = .ok (.putfield 16, 3) := by decide +kernel
theorem dX7_drawn_15 : decode cX7_drawn 15 = .ok (.aload_n 0, 1) := by decide +kernel
theorem dX7_drawn_16 : decode cX7_drawn 16 = .ok (.getfield 16, 3) := by decide +kernel
theorem dX7_drawn_19 : decode cX7_drawn 19 = .ok (.bipush 16, 2) := by decide +kernel
theorem dX7_drawn_21 : decode cX7_drawn 21 = .ok (.ishr, 1) := by decide +kernel
theorem dX7_drawn_22 : decode cX7_drawn 22 = .ok (.iconst 3, 1) := by decide +kernel
theorem dX7_drawn_23 : decode cX7_drawn 23 = .ok (.iand, 1) := by decide +kernel
theorem dX7_drawn_24 : decode cX7_drawn 24 = .ok (.ireturn, 1) := by decide +kernel
theorem dX7_aim_0 : decode cX7_aim 0 = .ok (.aload_n 0, 1) := by decide +kernel
theorem dX7_aim_1 : decode cX7_aim 1 = .ok (.getfield 43, 3) := by decide +kernel
theorem dX7_aim_4 : decode cX7_aim 4 = .ok (.iload_n 1, 1) := by decide +kernel
theorem dX7_aim_5 : decode cX7_aim 5 = .ok (.baload, 1) := by decide +kernel
theorem dX7_aim_6 : decode cX7_aim 6 = .ok (.ifCond .eq 14, 3) := by decide +kernel
theorem dX7_aim_9 : decode cX7_aim 9 = .ok (.iload_n 2, 1) := by decide +kernel
theorem dX7_aim_10 : decode cX7_aim 10 = .ok (.ifCond .eq 8, 3) := by decide +kernel
theorem dX7_aim_13 : decode cX7_aim 13 = .ok (.bipush 6, 2) := by decide +kernel
theorem dX7_aim_15 : decode cX7_aim 15 = .ok (.goto 4, 3) := by decide +kernel
theorem dX7_aim_18 : decode cX7_aim 18 = .ok (.iconst 2, 1) := by decide +kernel
theorem dX7_aim_19 : decode cX7_aim 19 = .ok (.ireturn, 1) := by decide +kernel
theorem dX7_aim_20 : decode cX7_aim 20 = .ok (.iload_n 2, 1) := by decide +kernel
theorem dX7_aim_21 : decode cX7_aim 21 = .ok (.ifCond .eq 10, 3) := by decide +kernel
theorem dX7_aim_24 : decode cX7_aim 24 = .ok (.iload_n 1, 1) := by decide +kernel
theorem dX7_aim_25 : decode cX7_aim 25 = .ok (.invokestatic 160, 3) := by decide +kernel
theorem dX7_aim_28 : decode cX7_aim 28 = .ok (.goto 7, 3) := by decide +kernel
theorem dX7_aim_31 : decode cX7_aim 31 = .ok (.iload_n 1, 1) := by decide +kernel
theorem dX7_aim_32 : decode cX7_aim 32 = .ok (.invokestatic 163, 3) := by decide +kernel
theorem dX7_aim_35 : decode cX7_aim 35 = .ok (.istore_n 3, 1) := by decide +kernel
theorem dX7_aim_36 : decode cX7_aim 36 = .ok (.aload_n 0, 1) := by decide +kernel
theorem dX7_aim_37 : decode cX7_aim 37 = .ok (.invokevirtual 166, 3) := by decide +kernel
theorem dX7_aim_40 : decode cX7_aim 40 = .ok (.ifCond .ne 40, 3) := by decide +kernel
theorem dX7_aim_43 : decode cX7_aim 43 = .ok (.iload_n 1, 1) := by decide +kernel
theorem dX7_aim_44 : decode cX7_aim 44 = .ok (.iconst 4, 1) := by decide +kernel
theorem dX7_aim_45 : decode cX7_aim 45 = .ok (.if_icmp .ne 37, 3) := by decide +kernel
theorem dX7_aim_48 : decode cX7_aim 48 = .ok (.aload_n 0, 1) := by decide +kernel
theorem dX7_aim_49 : decode cX7_aim 49 = .ok (.getfield 23, 3) := by decide +kernel
theorem dX7_aim_52 : decode cX7_aim 52 = .ok (.iconst 4, 1) := by decide +kernel
theorem dX7_aim_53 : decode cX7_aim 53 = .ok (.iaload, 1) := by decide +kernel
theorem dX7_aim_54 : decode cX7_aim 54 = .ok (.aload_n 0, 1) := by decide +kernel
theorem dX7_aim_55 : decode cX7_aim 55 = .ok (.getfield 26, 3) := by decide +kernel
theorem dX7_aim_58 : decode cX7_aim 58 = .ok (.iconst 4, 1) := by decide +kernel
theorem dX7_aim_59 : decode cX7_aim 59 = .ok (.iaload, 1) := by decide +kernel
theorem dX7_aim_60 : decode cX7_aim 60 = .ok (.aload_n 0, 1) := by decide +kernel
theorem dX7_aim_61 : decode cX7_aim 61 = .ok (.getfield 23, 3) := by decide +kernel
theorem dX7_aim_64 : decode cX7_aim 64 = .ok (.iconst 0, 1) := by decide +kernel
theorem dX7_aim_65 : decode cX7_aim 65 = .ok (.iaload, 1) := by decide +kernel
theorem dX7_aim_66 : decode cX7_aim 66 = .ok (.aload_n 0, 1) := by decide +kernel
theorem dX7_aim_67 : decode cX7_aim 67 = .ok (.getfield 26, 3) := by decide +kernel
theorem dX7_aim_70 : decode cX7_aim 70 = .ok (.iconst 0, 1) := by decide +kernel
theorem dX7_aim_71 : decode cX7_aim 71 = .ok (.iaload, 1) := by decide +kernel
theorem dX7_aim_72 : decode cX7_aim 72 = .ok (.invokestatic 155, 3) := by decide +kernel
theorem dX7_aim_75 : decode cX7_aim 75 = .ok (.bipush 9, 2) := by decide +kernel
theorem dX7_aim_77 : decode cX7_aim 77 = .ok (.if_icmp .ge 5, 3) := by decide +kernel
theorem dX7_aim_80 : decode cX7_aim 80 = .ok (.iload_n 3, 1) := by decide +kernel
theorem dX7_aim_81 : decode cX7_aim 81 = .ok (.ireturn, 1) := by decide +kernel
theorem dX7_aim_82 : decode cX7_aim 82 = .ok (.iload_n 2, 1) := by decide +kernel
theorem dX7_aim_83 : decode cX7_aim 83 = .ok (.ifCond .eq 12, 3) := by decide +kernel
theorem dX7_aim_86 : decode cX7_aim 86 = .ok (.aload_n 0, 1) := by decide +kernel
theorem dX7_aim_87 : decode cX7_aim 87 = .ok (.getfield 23, 3) := by decide +kernel
theorem dX7_aim_90 : decode cX7_aim 90 = .ok (.iconst 0, 1) := by decide +kernel
theorem dX7_aim_91 : decode cX7_aim 91 = .ok (.iaload, 1) := by decide +kernel
theorem dX7_aim_92 : decode cX7_aim 92 = .ok (.goto 9, 3) := by decide +kernel
theorem dX7_aim_95 : decode cX7_aim 95 = .ok (.aload_n 0, 1) := by decide +kernel
theorem dX7_aim_96 : decode cX7_aim 96 = .ok (.getfield 26, 3) := by decide +kernel
theorem dX7_aim_99 : decode cX7_aim 99 = .ok (.iconst 0, 1) := by decide +kernel
theorem dX7_aim_100 : decode cX7_aim 100 = .ok (.iaload, 1) := by decide +kernel
theorem dX7_aim_101 : decode cX7_aim 101 = .ok (.istore 4, 2) := by decide +kernel
theorem dX7_aim_103 : decode cX7_aim 103 = .ok (.iload_n 2, 1) := by decide +kernel
theorem dX7_aim_104 : decode cX7_aim 104 = .ok (.ifCond .eq 15, 3) := by decide +kernel
theorem dX7_aim_107 : decode cX7_aim 107 = .ok (.aload_n 0, 1) := by decide +kernel
theorem dX7_aim_108 : decode cX7_aim 108 = .ok (.getfield 29, 3) := by decide +kernel
theorem dX7_aim_111 : decode cX7_aim 111 = .ok (.iconst 0, 1) := by decide +kernel
theorem dX7_aim_112 : decode cX7_aim 112 = .ok (.iaload, 1) := by decide +kernel
theorem dX7_aim_113 : decode cX7_aim 113 = .ok (.invokestatic 84, 3) := by decide +kernel
theorem dX7_aim_116 : decode cX7_aim 116 = .ok (.goto 12, 3) := by decide +kernel
theorem dX7_aim_119 : decode cX7_aim 119 = .ok (.aload_n 0, 1) := by decide +kernel
theorem dX7_aim_120 : decode cX7_aim 120 = .ok (.getfield 29, 3) := by decide +kernel
theorem dX7_aim_123 : decode cX7_aim 123 = .ok (.iconst 0, 1) := by decide +kernel
theorem dX7_aim_124 : decode cX7_aim 124 = .ok (.iaload, 1) := by decide +kernel
theorem dX7_aim_125 : decode cX7_aim 125 = .ok (.invokestatic 91, 3) := by decide +kernel
theorem dX7_aim_128 : decode cX7_aim 128 = .ok (.istore 5, 2) := by decide +kernel
theorem dX7_aim_130 : decode cX7_aim 130 = .ok (.iload_n 1, 1) := by decide +kernel
theorem dX7_aim_131 : decode cX7_aim 131 = .ok (.iconst 2, 1) := by decide +kernel
theorem dX7_aim_132 : decode cX7_aim 132 = .ok (.if_icmp .ne 11, 3) := by decide +kernel
theorem dX7_aim_135 : decode cX7_aim 135 = .ok (.iload 4, 2) := by decide +kernel
theorem dX7_aim_137 : decode cX7_aim 137 = .ok (.iconst 2, 1) := by decide +kernel
theorem dX7_aim_138 : decode cX7_aim 138 = .ok (.iload 5, 2) := by decide +kernel
theorem dX7_aim_140 : decode cX7_aim 140 = .ok (.imul, 1) := by decide +kernel
theorem dX7_aim_141 : decode cX7_aim 141 = .ok (.iadd, 1) := by decide +kernel
theorem dX7_aim_142 : decode cX7_aim 142 = .ok (.ireturn, 1) := by decide +kernel
theorem dX7_aim_143 : decode cX7_aim 143 = .ok (.iload_n 1, 1) := by decide +kernel
theorem dX7_aim_144 : decode cX7_aim 144 = .ok (.iconst 3, 1) := by decide +kernel
theorem dX7_aim_145 : decode cX7_aim 145 = .ok (.if_icmp .ne 33, 3) := by decide +kernel
theorem dX7_aim_148 : decode cX7_aim 148 = .ok (.iconst 2, 1) := by decide +kernel
theorem dX7_aim_149 : decode cX7_aim 149 = .ok (.iload 4, 2) := by decide +kernel
theorem dX7_aim_151 : decode cX7_aim 151 = .ok (.iload 5, 2) := by decide +kernel
theorem dX7_aim_153 : decode cX7_aim 153 = .ok (.iadd, 1) := by decide +kernel
theorem dX7_aim_154 : decode cX7_aim 154 = .ok (.imul, 1) := by decide +kernel
theorem dX7_aim_155 : decode cX7_aim 155 = .ok (.iload_n 2, 1) := by decide +kernel
theorem dX7_aim_156 : decode cX7_aim 156 = .ok (.ifCond .eq 12, 3) := by decide +kernel
theorem dX7_aim_159 : decode cX7_aim 159 = .ok (.aload_n 0, 1) := by decide +kernel
theorem dX7_aim_160 : decode cX7_aim 160 = .ok (.getfield 23, 3) := by decide +kernel
theorem dX7_aim_163 : decode cX7_aim 163 = .ok (.iconst 1, 1) := by decide +kernel
theorem dX7_aim_164 : decode cX7_aim 164 = .ok (.iaload, 1) := by decide +kernel
theorem dX7_aim_165 : decode cX7_aim 165 = .ok (.goto 9, 3) := by decide +kernel
theorem dX7_aim_168 : decode cX7_aim 168 = .ok (.aload_n 0, 1) := by decide +kernel
theorem dX7_aim_169 : decode cX7_aim 169 = .ok (.getfield 26, 3) := by decide +kernel
theorem dX7_aim_172 : decode cX7_aim 172 = .ok (.iconst 1, 1) := by decide +kernel
theorem dX7_aim_173 : decode cX7_aim 173 = .ok (.iaload, 1) := by decide +kernel
theorem dX7_aim_174 : decode cX7_aim 174 = .ok (.isub, 1) := by decide +kernel
theorem dX7_aim_175 : decode cX7_aim 175 = .ok (.goto 5, 3) := by decide +kernel
theorem dX7_aim_178 : decode cX7_aim 178 = .ok (.iload 4, 2) := by decide +kernel
theorem dX7_aim_180 : decode cX7_aim 180 = .ok (.ireturn, 1) := by decide +kernel
theorem dX7_met_0 : decode cX7_met 0 = .ok (.aload_n 0, 1) := by decide +kernel
theorem dX7_met_1 : decode cX7_met 1 = .ok (.getfield 23, 3) := by decide +kernel
theorem dX7_met_4 : decode cX7_met 4 = .ok (.iload_n 1, 1) := by decide +kernel
theorem dX7_met_5 : decode cX7_met 5 = .ok (.iaload, 1) := by decide +kernel
theorem dX7_met_6 : decode cX7_met 6 = .ok (.aload_n 0, 1) := by decide +kernel
theorem dX7_met_7 : decode cX7_met 7 = .ok (.getfield 23, 3) := by decide +kernel
theorem dX7_met_10 : decode cX7_met 10 = .ok (.iconst 0, 1) := by decide +kernel
theorem dX7_met_11 : decode cX7_met 11 = .ok (.iaload, 1) := by decide +kernel
theorem dX7_met_12 : decode cX7_met 12 = .ok (.if_icmp .ne 22, 3) := by decide +kernel
theorem dX7_met_15 : decode cX7_met 15 = .ok (.aload_n 0, 1) := by decide +kernel
theorem dX7_met_16 : decode cX7_met 16 = .ok (.getfield 26, 3) := by decide +kernel
theorem dX7_met_19 : decode cX7_met 19 = .ok (.iload_n 1, 1) := by decide +kernel
theorem dX7_met_20 : decode cX7_met 20 = .ok (.iaload, 1) := by decide +kernel
theorem dX7_met_21 : decode cX7_met 21 = .ok (.aload_n 0, 1) := by decide +kernel
theorem dX7_met_22 : decode cX7_met 22 = .ok (.getfield 26, 3) := by decide +kernel
theorem dX7_met_25 : decode cX7_met 25 = .ok (.iconst 0, 1) := by decide +kernel
theorem dX7_met_26 : decode cX7_met 26 = .ok (.iaload, 1) := by decide +kernel
theorem dX7_met_27 : decode cX7_met 27 = .ok (.if_icmp .ne 7, 3) := by decide +kernel
theorem dX7_met_30 : decode cX7_met 30 = .ok (.iconst 1, 1) := by decide +kernel
theorem dX7_met_31 : decode cX7_met 31 = .ok (.goto 4, 3) := by decide +kernel
theorem dX7_met_34 : decode cX7_met 34 = .ok (.iconst 0, 1) := by decide +kernel
theorem dX7_met_35 : decode cX7_met 35 = .ok (.istore_n 2, 1) := by decide +kernel
theorem dX7_met_36 : decode cX7_met 36 = .ok (.aload_n 0, 1) := by decide +kernel
theorem dX7_met_37 : decode cX7_met 37 = .ok (.getfield 23, 3) := by decide +kernel
theorem dX7_met_40 : decode cX7_met 40 = .ok (.iload_n 1, 1) := by decide +kernel
theorem dX7_met_41 : decode cX7_met 41 = .ok (.iaload, 1) := by decide +kernel
theorem dX7_met_42 : decode cX7_met 42 = .ok (.aload_n 0, 1) := by decide +kernel
theorem dX7_met_43 : decode cX7_met 43 = .ok (.getfield 46, 3) := by decide +kernel
theorem dX7_met_46 : decode cX7_met 46 = .ok (.iconst 0, 1) := by decide +kernel
theorem dX7_met_47 : decode cX7_met 47 = .ok (.iaload, 1) := by decide +kernel
theorem dX7_met_48 : decode cX7_met 48 = .ok (.if_icmp .ne 52, 3) := by decide +kernel
theorem dX7_met_51 : decode cX7_met 51 = .ok (.aload_n 0, 1) := by decide +kernel
theorem dX7_met_52 : decode cX7_met 52 = .ok (.getfield 26, 3) := by decide +kernel
theorem dX7_met_55 : decode cX7_met 55 = .ok (.iload_n 1, 1) := by decide +kernel
theorem dX7_met_56 : decode cX7_met 56 = .ok (.iaload, 1) := by decide +kernel
theorem dX7_met_57 : decode cX7_met 57 = .ok (.aload_n 0, 1) := by decide +kernel
theorem dX7_met_58 : decode cX7_met 58 = .ok (.getfield 49, 3) := by decide +kernel
theorem dX7_met_61 : decode cX7_met 61 = .ok (.iconst 0, 1) := by decide +kernel
theorem dX7_met_62 : decode cX7_met 62 = .ok (.iaload, 1) := by decide +kernel
theorem dX7_met_63 : decode cX7_met 63 = .ok (.if_icmp .ne 37, 3) := by decide +kernel
theorem dX7_met_66 : decode cX7_met 66 = .ok (.aload_n 0, 1) := by decide +kernel
theorem dX7_met_67 : decode cX7_met 67 = .ok (.getfield 23, 3) := by decide +kernel
theorem dX7_met_70 : decode cX7_met 70 = .ok (.iconst 0, 1) := by decide +kernel
theorem dX7_met_71 : decode cX7_met 71 = .ok (.iaload, 1) := by decide +kernel
theorem dX7_met_72 : decode cX7_met 72 = .ok (.aload_n 0, 1) := by decide +kernel
theorem dX7_met_73 : decode cX7_met 73 = .ok (.getfield 46, 3) := by decide +kernel
theorem dX7_met_76 : decode cX7_met 76 = .ok (.iload_n 1, 1) := by decide +kernel
theorem dX7_met_77 : decode cX7_met 77 = .ok (.iaload, 1) := by decide +kernel
theorem dX7_met_78 : decode cX7_met 78 = .ok (.if_icmp .ne 22, 3) := by decide +kernel
theorem dX7_met_81 : decode cX7_met 81 = .ok (.aload_n 0, 1) := by decide +kernel
theorem dX7_met_82 : decode cX7_met 82 = .ok (.getfield 26, 3) := by decide +kernel
theorem dX7_met_85 : decode cX7_met 85 = .ok (.iconst 0, 1) := by decide +kernel
theorem dX7_met_86 : decode cX7_met 86 = .ok (.iaload, 1) := by decide +kernel
theorem dX7_met_87 : decode cX7_met 87 = .ok (.aload_n 0, 1) := by decide +kernel
theorem dX7_met_88 : decode cX7_met 88 = .ok (.getfield 49, 3) := by decide +kernel
theorem dX7_met_91 : decode cX7_met 91 = .ok (.iload_n 1, 1) := by decide +kernel
theorem dX7_met_92 : decode cX7_met 92 = .ok (.iaload, 1) := by decide +kernel
theorem dX7_met_93 : decode cX7_met 93 = .ok (.if_icmp .ne 7, 3) := by decide +kernel
theorem dX7_met_96 : decode cX7_met 96 = .ok (.iconst 1, 1) := by decide +kernel
theorem dX7_met_97 : decode cX7_met 97 = .ok (.goto 4, 3) := by decide +kernel
theorem dX7_met_100 : decode cX7_met 100 = .ok (.iconst 0, 1) := by decide +kernel
theorem dX7_met_101 : decode cX7_met 101 = .ok (.istore_n 3, 1) := by decide +kernel
theorem dX7_met_102 : decode cX7_met 102 = .ok (.iload_n 2, 1) := by decide +kernel
theorem dX7_met_103 : decode cX7_met 103 = .ok (.ifCond .ne 7, 3) := by decide +kernel
theorem dX7_met_106 : decode cX7_met 106 = .ok (.iload_n 3, 1) := by decide +kernel
theorem dX7_met_107 : decode cX7_met 107 = .ok (.ifCond .eq 7, 3) := by decide +kernel
theorem dX7_met_110 : decode cX7_met 110 = .ok (.iconst 1, 1) := by decide +kernel
theorem dX7_met_111 : decode cX7_met 111 = .ok (.goto 4, 3) := by decide +kernel
theorem dX7_met_114 : decode cX7_met 114 = .ok (.iconst 0, 1) := by decide +kernel
theorem dX7_met_115 : decode cX7_met 115 = .ok (.ireturn, 1) := by decide +kernel
theorem dX7_meet_0 : decode cX7_meet 0 = .ok (.iconst 1, 1) := by decide +kernel
theorem dX7_meet_1 : decode cX7_meet 1 = .ok (.istore_n 1, 1) := by decide +kernel
theorem dX7_meet_2 : decode cX7_meet 2 = .ok (.iload_n 1, 1) := by decide +kernel
theorem dX7_meet_3 : decode cX7_meet 3 = .ok (.iconst 5, 1) := by decide +kernel
theorem dX7_meet_4 : decode cX7_meet 4 = .ok (.if_icmp .ge 125, 3) := by decide +kernel
theorem dX7_meet_7 : decode cX7_meet 7 = .ok (.aload_n 0, 1) := by decide +kernel
theorem dX7_meet_8 : decode cX7_meet 8 = .ok (.getfield 170, 3) := by decide +kernel
theorem dX7_meet_11 : decode cX7_meet 11 = .ok (.ifCond .ne 118, 3) := by decide +kernel
theorem dX7_meet_14 : decode cX7_meet 14 = .ok (.aload_n 0, 1) := by decide +kernel
theorem dX7_meet_15 : decode cX7_meet 15 = .ok (.iload_n 1, 1) := by decide +kernel
theorem dX7_meet_16 : decode cX7_meet 16 = .ok (.invokevirtual 173, 3) := by decide +kernel
theorem dX7_meet_19 : decode cX7_meet 19 = .ok (.ifCond .eq 65, 3) := by decide +kernel
theorem dX7_meet_22 : decode cX7_meet 22 = .ok (.aload_n 0, 1) := by decide +kernel
theorem dX7_meet_23 : decode cX7_meet 23 = .ok (.getfield 36, 3) := by decide +kernel
theorem dX7_meet_26 : decode cX7_meet 26 = .ok (.iload_n 1, 1) := by decide +kernel
theorem dX7_meet_27 : decode cX7_meet 27 = .ok (.baload, 1) := by decide +kernel
theorem dX7_meet_28 : decode cX7_meet 28 = .ok (.ifCond .eq 56, 3) := by decide +kernel
theorem dX7_meet_31 : decode cX7_meet 31 = .ok (.aload_n 0, 1) := by decide +kernel
theorem dX7_meet_32 : decode cX7_meet 32 = .ok (.sipush 200, 3) := by decide +kernel
theorem dX7_meet_35 : decode cX7_meet 35 = .ok (.aload_n 0, 1) := by decide +kernel
theorem dX7_meet_36 : decode cX7_meet 36 = .ok (.getfield 139, 3) := by decide +kernel
theorem dX7_meet_39 : decode cX7_meet 39 = .ok (.ishl, 1) := by decide +kernel
theorem dX7_meet_40 : decode cX7_meet 40 = .ok (.invokevirtual 130, 3) := by decide +kernel
theorem dX7_meet_43 : decode cX7_meet 43 = .ok (.aload_n 0, 1) := by decide +kernel
theorem dX7_meet_44 : decode cX7_meet 44 = .ok (.aload_n 0, 1) := by decide +kernel
theorem dX7_meet_45 : decode cX7_meet 45 = .ok (.getfield 139, 3) := by decide +kernel
theorem dX7_meet_48 : decode cX7_meet 48 = .ok (.iconst 3, 1) := by decide +kernel
theorem dX7_meet_49 : decode cX7_meet 49 = .ok (.if_icmp .ge 12, 3) := by decide +kernel
theorem dX7_meet_52 : decode cX7_meet 52 = .ok (.aload_n 0, 1) := by decide +kernel
theorem dX7_meet_53 : decode cX7_meet 53 = .ok (.getfield 139, 3) := by decide +kernel
theorem dX7_meet_56 : decode cX7_meet 56 = .ok (.iconst 1, 1) := by decide +kernel
theorem dX7_meet_57 : decode cX7_meet 57 = .ok (.iadd, 1) := by decide +kernel
theorem dX7_meet_58 : decode cX7_meet 58 = .ok (.goto 4, 3) := by decide +kernel
theorem dX7_meet_61 : decode cX7_meet 61 = .ok (.iconst 3, 1) := by decide +kernel
theorem dX7_meet_62 : decode cX7_meet 62 = .ok (.putfield 139, 3) := by decide +kernel
theorem dX7_meet_65 : decode cX7_meet 65 = .ok (.aload_n 0, 1) := by decide +kernel
theorem dX7_meet_66 : decode cX7_meet 66 = .ok (.iload_n 1, 1) := by decide +kernel
theorem dX7_meet_67 : decode cX7_meet 67 = .ok (.bipush 6, 2) := by decide +kernel
theorem dX7_meet_69 : decode cX7_meet 69 = .ok (.iconst 4, 1) := by decide +kernel
theorem dX7_meet_70 : decode cX7_meet 70 = .ok (.iconst 0, 1) := by decide +kernel
theorem dX7_meet_71 : decode cX7_meet 71 = .ok (.bipush 30, 2) := by decide +kernel
theorem dX7_meet_73 : decode cX7_meet 73 = .ok (.invokevirtual 74, 3) := by decide +kernel
theorem dX7_meet_76 : decode cX7_meet 76 = .ok (.aload_n 0, 1) := by decide +kernel
theorem dX7_meet_77 : decode cX7_meet 77 = .ok (.iconst 1, 1) := by decide +kernel
theorem dX7_meet_78 : decode cX7_meet 78 = .ok (.putfield 136, 3) := by decide +kernel
theorem dX7_meet_81 : decode cX7_meet 81 = .ok (.goto 42, 3) := by decide +kernel
theorem dX7_meet_84 : decode cX7_meet 84 = .ok (.aload_n 0, 1) := by decide +kernel
theorem dX7_meet_85 : decode cX7_meet 85 = .ok (.iload_n 1, 1) := by decide +kernel
theorem dX7_meet_86 : decode cX7_meet 86 = .ok (.invokevirtual 173, 3) := by decide +kernel
theorem dX7_meet_89 : decode cX7_meet 89 = .ok (.ifCond .eq 34, 3) := by decide +kernel
theorem dX7_meet_92 : decode cX7_meet 92 = .ok (.aload_n 0, 1) := by decide +kernel
theorem dX7_meet_93 : decode cX7_meet 93 = .ok (.iconst 1, 1) := by decide +kernel
theorem dX7_meet_94 : decode cX7_meet 94 = .ok (.putfield 170, 3) := by decide +kernel
theorem dX7_meet_97 : decode cX7_meet 97 = .ok (.aload_n 0, 1) := by decide +kernel
theorem dX7_meet_98 : decode cX7_meet 98 = .ok (.dup, 1) := by decide +kernel
theorem dX7_meet_99 : decode cX7_meet 99 = .ok (.getfield 108, 3) := by decide +kernel
theorem dX7_meet_102 : decode cX7_meet 102 = .ok (.iconst 1, 1) := by decide +kernel
theorem dX7_meet_103 : decode cX7_meet 103 = .ok (.isub, 1) := by decide +kernel
theorem dX7_meet_104 : decode cX7_meet 104 = .ok (.putfield 108, 3) := by decide +kernel
theorem dX7_meet_107 : decode cX7_meet 107 = .ok (.aload_n 0, 1) := by decide +kernel
theorem dX7_meet_108 : decode cX7_meet 108 = .ok (.aload_n 0, 1) := by decide +kernel
theorem dX7_meet_109 : decode cX7_meet 109 = .ok (.getfield 108, 3) := by decide +kernel
theorem dX7_meet_112 : decode cX7_meet 112 = .ok (.ifCond .le 7, 3) := by decide +kernel
theorem dX7_meet_115 : decode cX7_meet 115 = .ok (.iconst 1, 1) := by decide +kernel
theorem dX7_meet_116 : decode cX7_meet 116 = .ok (.goto 4, 3) := by decide +kernel
theorem dX7_meet_119 : decode cX7_meet 119 = .ok (.iconst 0, 1) := by decide +kernel
theorem dX7_meet_120 : decode cX7_meet 120 = .ok (.putfield 177, 3) := by decide +kernel
theorem dX7_meet_123 : decode cX7_meet 123 = .ok (.iinc 1 1, 3) := by decide +kernel
theorem dX7_meet_126 : decode cX7_meet 126 = .ok (.goto (-124), 3) := by decide +kernel
theorem dX7_meet_129 : decode cX7_meet 129 = .ok (.aload_n 0, 1) := by decide +kernel
theorem dX7_meet_130 : decode cX7_meet 130 = .ok (.getfield 170, 3) := by decide +kernel
theorem dX7_meet_133 : decode cX7_meet 133 = .ok (.ifCond .eq 14, 3) := by decide +kernel
theorem dX7_meet_136 : decode cX7_meet 136 = .ok (.aload_n 0, 1) := by decide +kernel
theorem dX7_meet_137 : decode cX7_meet 137 = .ok (.getfield 177, 3) := by decide +kernel
theorem dX7_meet_140 : decode cX7_meet 140 = .ok (.ifCond .eq 7, 3) := by decide +kernel
theorem dX7_meet_143 : decode cX7_meet 143 = .ok (.aload_n 0, 1) := by decide +kernel
theorem dX7_meet_144 : decode cX7_meet 144 = .ok (.invokevirtual 67, 3) := by decide +kernel
theorem dX7_meet_147 : decode cX7_meet 147 = .ok (.return_, 1) := by decide +kernel
