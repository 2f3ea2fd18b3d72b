theorem dX6_reset_0 : decode cX6_reset 0 = .ok (.aload_n 0, 1) := by decide +kernel
theorem dX6_reset_1 : decode cX6_reset 1 = .ok (.getfield 10, 3) := by decide +kernel
theorem dX6_reset_4 : decode cX6_reset 4 = .ok (.invokevirtual 142, 3) := by decide +kernel
theorem dX6_reset_7 : decode cX6_reset 7 = .ok (.aload_n 0, 1) := by decide +kernel
theorem dX6_reset_8 : decode cX6_reset 8 = .ok (.getfield 19, 3) := by decide +kernel
theorem dX6_reset_11 : decode cX6_reset 11 = .ok (.invokevirtual 145, 3) := by decide +kernel
theorem dX6_reset_14 : decode cX6_reset 14 = .ok (.aload_n 0, 1) := by decide +kernel
theorem dX6_reset_15 : decode cX6_reset 15 = .ok (.iconst 0, 1) := by decide +kernel
theorem dX6_reset_16 : decode cX6_reset 16 = .ok (.putfield 27, 3) := by decide +kernel
theorem dX6_reset_19 : decode cX6_reset 19 = .ok (.aload_n 0, 1) := by decide +kernel
theorem dX6_reset_20 : decode cX6_reset 20 = .ok (.iconst (-1), 1) := by decide +kernel
theorem dX6_reset_21 : decode cX6_reset 21 = .ok (.putfield 23, 3) := by decide +kernel
theorem dX6_reset_24 : decode cX6_reset 24 = .ok (.aload_n 0, 1) := by decide +kernel
theorem dX6_reset_25 : decode cX6_reset 25 = .ok (.iconst 0, 1) := by decide +kernel
theorem dX6_reset_26 : decode cX6_reset 26 = .ok (.putfield 37, 3) := by decide +kernel
theorem dX6_reset_29 : decode cX6_reset 29 = .ok (.return_, 1) := by decide +kernel
theorem dX6_nextColumn_0 : decode cX6_nextColumn 0 = .ok (.iload_n 1, 1) := by decide +kernel
theorem dX6_nextColumn_1 : decode cX6_nextColumn 1 = .ok (.iconst 1, 1) := by decide +kernel
theorem dX6_nextColumn_2 : decode cX6_nextColumn 2 = .ok (.if_icmp .ne 16, 3) := by decide +kernel
theorem dX6_nextColumn_5 : decode cX6_nextColumn 5 = .ok (.iload_n 0, 1) := by decide +kernel
theorem dX6_nextColumn_6 : decode cX6_nextColumn 6 = .ok (.ifCond .ne 8, 3) := by decide +kernel
theorem dX6_nextColumn_9 : decode cX6_nextColumn 9 = .ok (.bipush 12, 2) := by decide +kernel
theorem dX6_nextColumn_11 : decode cX6_nextColumn 11 = .ok (.goto 6, 3) := by decide +kernel
theorem dX6_nextColumn_14 : decode cX6_nextColumn 14 = .ok (.iload_n 0, 1) := by decide +kernel
theorem dX6_nextColumn_15 : decode cX6_nextColumn 15 = .ok (.iconst 1, 1) := by decide +kernel
theorem dX6_nextColumn_16 : decode cX6_nextColumn 16 = .ok (.isub, 1) := by decide +kernel
theorem dX6_nextColumn_17 : decode cX6_nextColumn 17 = .ok (.ireturn, 1) := by decide +kernel
theorem dX6_nextColumn_18 : decode cX6_nextColumn 18 = .ok (.iload_n 1, 1) := by decide +kernel
theorem dX6_nextColumn_19 : decode cX6_nextColumn 19 = .ok (.iconst 3, 1) := by decide +kernel
theorem dX6_nextColumn_20 : decode cX6_nextColumn 20 = .ok (.if_icmp .ne 17, 3) := by decide +kernel
theorem dX6_nextColumn_23 : decode cX6_nextColumn 23 = .ok (.iload_n 0, 1) := by decide +kernel
theorem dX6_nextColumn_24 : decode cX6_nextColumn 24 = .ok (.bipush 12, 2) := by decide +kernel
theorem dX6_nextColumn_26 : decode cX6_nextColumn 26 = .ok (.if_icmp .ne 7, 3) := by decide +kernel
theorem dX6_nextColumn_29 : decode cX6_nextColumn 29 = .ok (.iconst 0, 1) := by decide +kernel
theorem dX6_nextColumn_30 : decode cX6_nextColumn 30 = .ok (.goto 6, 3) := by decide +kernel
theorem dX6_nextColumn_33 : decode cX6_nextColumn 33 = .ok (.iload_n 0, 1) := by decide +kernel
theorem dX6_nextColumn_34 : decode cX6_nextColumn 34 = .ok (.iconst 1, 1) := by decide +kernel
theorem dX6_nextColumn_35 : decode cX6_nextColumn 35 = .ok (.iadd, 1) := by decide +kernel
theorem dX6_nextColumn_36 : decode cX6_nextColumn 36 = .ok (.ireturn, 1) := by decide +kernel
theorem dX6_nextColumn_37 : decode cX6_nextColumn 37 = .ok (.iload_n 0, 1) := by decide +kernel
theorem dX6_nextColumn_38 : decode cX6_nextColumn 38 = .ok (.ireturn, 1) := by decide +kernel
theorem dX6_nextRow_0 : decode cX6_nextRow 0 = .ok (.iload_n 1, 1) := by decide +kernel
theorem dX6_nextRow_1 : decode cX6_nextRow 1 = .ok (.ifCond .ne 9, 3) := by decide +kernel
theorem dX6_nextRow_4 : decode cX6_nextRow 4 = .ok (.iload_n 0, 1) := by decide +kernel
theorem dX6_nextRow_5 : decode cX6_nextRow 5 = .ok (.iconst 1, 1) := by decide +kernel
theorem dX6_nextRow_6 : decode cX6_nextRow 6 = .ok (.isub, 1) := by decide +kernel
theorem dX6_nextRow_7 : decode cX6_nextRow 7 = .ok (.goto 15, 3) := by decide +kernel
theorem dX6_nextRow_10 : decode cX6_nextRow 10 = .ok (.iload_n 1, 1) := by decide +kernel
theorem dX6_nextRow_11 : decode cX6_nextRow 11 = .ok (.iconst 2, 1) := by decide +kernel
theorem dX6_nextRow_12 : decode cX6_nextRow 12 = .ok (.if_icmp .ne 9, 3) := by decide +kernel
theorem dX6_nextRow_15 : decode cX6_nextRow 15 = .ok (.iload_n 0, 1) := by decide +kernel
theorem dX6_nextRow_16 : decode cX6_nextRow 16 = .ok (.iconst 1, 1) := by decide +kernel
theorem dX6_nextRow_17 : decode cX6_nextRow 17 = .ok (.iadd, 1) := by decide +kernel
theorem dX6_nextRow_18 : decode cX6_nextRow 18 = .ok (.goto 4, 3) := by decide +kernel
theorem dX6_nextRow_21 : decode cX6_nextRow 21 = .ok (.iload_n 0, 1) := by decide +kernel
theorem dX6_nextRow_22 : decode cX6_nextRow 22 = .ok (.ireturn, 1) := by decide +kernel
theorem dX6_columnStep_0 : decode cX6_columnStep 0 = .ok (.iload_n 0, 1) := by decide +kernel
theorem dX6_columnStep_1 : decode cX6_columnStep 1 = .ok (.iconst 1, 1) := by decide +kernel
theorem dX6_columnStep_2 : decode cX6_columnStep 2 = .ok (.if_icmp .ne 7, 3) := by decide +kernel
theorem dX6_columnStep_5 : decode cX6_columnStep 5 = .ok (.iconst (-1), 1) := by decide +kernel
theorem dX6_columnStep_6 : decode cX6_columnStep 6 = .ok (.goto 13, 3) := by decide +kernel
theorem dX6_columnStep_9 : decode cX6_columnStep 9 = .ok (.iload_n 0, 1) := by decide +kernel
theorem dX6_columnStep_10 : decode cX6_columnStep 10 = .ok (.iconst 3, 1) := by decide +kernel
theorem dX6_columnStep_11 : decode cX6_columnStep 11 = .ok (.if_icmp .ne 7, 3) := by decide +kernel
theorem dX6_columnStep_14 : decode cX6_columnStep 14 = .ok (.iconst 1, 1) := by decide +kernel
theorem dX6_columnStep_15 : decode cX6_columnStep 15 = .ok (.goto 4, 3) := by decide +kernel
theorem dX6_columnStep_18 : decode cX6_columnStep 18 = .ok (.iconst 0, 1) := by decide +kernel
theorem dX6_columnStep_19 : decode cX6_columnStep 19 = .ok (.ireturn, 1) := by decide +kernel
theorem dX6_rowStep_0 : decode cX6_rowStep 0 = .ok (.iload_n 0, 1) := by decide +kernel
theorem dX6_rowStep_1 : decode cX6_rowStep 1 = .ok (.ifCond .ne 7, 3) := by decide +kernel
theorem dX6_rowStep_4 : decode cX6_rowStep 4 = .ok (.iconst (-1), 1) := by decide +kernel
theorem dX6_rowStep_5 : decode cX6_rowStep 5 = .ok (.goto 13, 3) := by decide +kernel
theorem dX6_rowStep_8 : decode cX6_rowStep 8 = .ok (.iload_n 0, 1) := by decide +kernel
theorem dX6_rowStep_9 : decode cX6_rowStep 9 = .ok (.iconst 2, 1) := by decide +kernel
theorem dX6_rowStep_10 : decode cX6_rowStep 10 = .ok (.if_icmp .ne 7, 3) := by decide +kernel
theorem dX6_rowStep_13 : decode cX6_rowStep 13 = .ok (.iconst 1, 1) := by decide +kernel
theorem dX6_rowStep_14 : decode cX6_rowStep 14 = .ok (.goto 4, 3) := by decide +kernel
theorem dX6_rowStep_17 : decode cX6_rowStep 17 = .ok (.iconst 0, 1) := by decide +kernel
theorem dX6_rowStep_18 : decode cX6_rowStep 18 = .ok (.ireturn, 1) := by decide +kernel
theorem dX6_opposite_0 : decode cX6_opposite 0 = .ok (.iload_n 0, 1) := by decide +kernel
theorem dX6_opposite_1 : decode cX6_opposite 1 = .ok (.iconst 2, 1) := by decide +kernel
theorem dX6_opposite_2 : decode cX6_opposite 2 = .ok (.ixor, 1) := by decide +kernel
theorem dX6_opposite_3 : decode cX6_opposite 3 = .ok (.ireturn, 1) := by decide +kernel
theorem dX6_distance_0 : decode cX6_distance 0 = .ok (.iload_n 0, 1) := by decide +kernel
theorem dX6_distance_1 : decode cX6_distance 1 = .ok (.iload_n 2, 1) := by decide +kernel
theorem dX6_distance_2 : decode cX6_distance 2 = .ok (.isub, 1) := by decide +kernel
theorem dX6_distance_3 : decode cX6_distance 3 = .ok (.istore 4, 2) := by decide +kernel
theorem dX6_distance_5 : decode cX6_distance 5 = .ok (.iload_n 1, 1) := by decide +kernel
theorem dX6_distance_6 : decode cX6_distance 6 = .ok (.iload_n 3, 1) := by decide +kernel
theorem dX6_distance_7 : decode cX6_distance 7 = .ok (.isub, 1) := by decide +kernel
theorem dX6_distance_8 : decode cX6_distance 8 = .ok (.istore 5, 2) := by decide +kernel
theorem dX6_distance_10 : decode cX6_distance 10 = .ok (.iload 4, 2) := by decide +kernel
theorem dX6_distance_12 : decode cX6_distance 12 = .ok (.iload 4, 2) := by decide +kernel
theorem dX6_distance_14 : decode cX6_distance 14 = .ok (.imul, 1) := by decide +kernel
theorem dX6_distance_15 : decode cX6_distance 15 = .ok (.iload 5, 2) := by decide +kernel
theorem dX6_distance_17 : decode cX6_distance 17 = .ok (.iload 5, 2) := by decide +kernel
theorem dX6_distance_19 : decode cX6_distance 19 = .ok (.imul, 1) := by decide +kernel
theorem dX6_distance_20 : decode cX6_distance 20 = .ok (.iadd, 1) := by decide +kernel
theorem dX6_distance_21 : decode cX6_distance 21 = .ok (.ireturn, 1) := by decide +kernel
theorem dX7_init_0 : decode cX7_init 0 = .ok (.aload_n 0, 1) := by decide +kernel
theorem dX7_init_1 : decode cX7_init 1 = .ok (.invokespecial 1, 3) := by decide +kernel
theorem dX7_init_4 : decode cX7_init 4 = .ok (.aload_n 0, 1) := by decide +kernel
theorem dX7_init_5 : decode cX7_init 5 = .ok (.bipush 117, 2) := by decide +kernel
theorem dX7_init_7 : decode cX7_init 7 = .ok (.newarray .int, 2) := by decide +kernel
theorem dX7_init_9 : decode cX7_init 9 = .ok (.putfield 7, 3) := by decide +kernel
theorem dX7_init_12 : decode cX7_init 12 = .ok (.aload_n 0, 1) := by decide +kernel
theorem dX7_init_13 : decode cX7_init 13 = .ok (.bipush 117, 2) := by decide +kernel
theorem dX7_init_15 : decode cX7_init 15 = .ok (.newarray .int, 2) := by decide +kernel
theorem dX7_init_17 : decode cX7_init 17 = .ok (.putfield 13, 3) := by decide +kernel
theorem dX7_init_20 : decode cX7_init 20 = .ok (.aload_n 0, 1) := by decide +kernel
theorem dX7_init_21 : decode cX7_init 21 = .ok (.iconst 1, 1) := by decide +kernel
theorem dX7_init_22 : decode cX7_init 22 = .ok (.putfield 16, 3) := by decide +kernel
theorem dX7_init_25 : decode cX7_init 25 = .ok (.aload_n 0, 1) := by decide +kernel
theorem dX7_init_26 : decode cX7_init 26 = .ok (.iconst (-1), 1) := by decide +kernel
theorem dX7_init_27 : decode cX7_init 27 = .ok (.putfield 20, 3) := by decide +kernel
theorem dX7_init_30 : decode cX7_init 30 = .ok (.aload_n 0, 1) := by decide +kernel
theorem dX7_init_31 : decode cX7_init 31 = .ok (.iconst 5, 1) := by decide +kernel
theorem dX7_init_32 : decode cX7_init 32 = .ok (.newarray .int, 2) := by decide +kernel
theorem dX7_init_34 : decode cX7_init 34 = .ok (.putfield 23, 3) := by decide +kernel
theorem dX7_init_37 : decode cX7_init 37 = .ok (.aload_n 0, 1) := by decide +kernel
theorem dX7_init_38 : decode cX7_init 38 = .ok (.iconst 5, 1) := by decide +kernel
theorem dX7_init_39 : decode cX7_init 39 = .ok (.newarray .int, 2) := by decide +kernel
theorem dX7_init_41 : decode cX7_init 41 = .ok (.putfield 26, 3) := by decide +kernel
theorem dX7_init_44 : decode cX7_init 44 = .ok (.aload_n 0, 1) := by decide +kernel
theorem dX7_init_45 : decode cX7_init 45 = .ok (.iconst 5, 1) := by decide +kernel
theorem dX7_init_46 : decode cX7_init 46 = .ok (.newarray .int, 2) := by decide +kernel
theorem dX7_init_48 : decode cX7_init 48 = .ok (.putfield 29, 3) := by decide +kernel
theorem dX7_init_51 : decode cX7_init 51 = .ok (.aload_n 0, 1) := by decide +kernel
theorem dX7_init_52 : decode cX7_init 52 = .ok (.iconst 5, 1) := by decide +kernel
theorem dX7_init_53 : decode cX7_init 53 = .ok (.newarray .float, 2) := by decide +kernel
theorem dX7_init_55 : decode cX7_init 55 = .ok (.putfield 32, 3) := by decide +kernel
theorem dX7_init_58 : decode cX7_init 58 = .ok (.aload_n 0, 1) := by decide +kernel
theorem dX7_init_59 : decode cX7_init 59 = .ok (.iconst 5, 1) := by decide +kernel
theorem dX7_init_60 : decode cX7_init 60 = .ok (.newarray .boolean, 2) := by decide +kernel
theorem dX7_init_62 : decode cX7_init 62 = .ok (.putfield 36, 3) := by decide +kernel
theorem dX7_init_65 : decode cX7_init 65 = .ok (.aload_n 0, 1) := by decide +kernel
theorem dX7_init_66 : decode cX7_init 66 = .ok (.iconst 5, 1) := by decide +kernel
theorem dX7_init_67 : decode cX7_init 67 = .ok (.newarray .int, 2) := by decide +kernel
theorem dX7_init_69 : decode cX7_init 69 = .ok (.putfield 40, 3) := by decide +kernel
theorem dX7_init_72 : decode cX7_init 72 = .ok (.aload_n 0, 1) := by decide +kernel
theorem dX7_init_73 : decode cX7_init 73 = .ok (.iconst 5, 1) := by decide +kernel
theorem dX7_init_74 : decode cX7_init 74 = .ok (.newarray .boolean, 2) := by decide +kernel
theorem dX7_init_76 : decode cX7_init 76 = .ok (.putfield 43, 3) := by decide +kernel
theorem dX7_init_79 : decode cX7_init 79 = .ok (.aload_n 0, 1) := by decide +kernel
theorem dX7_init_80 : decode cX7_init 80 = .ok (.iconst 5, 1) := by decide +kernel
theorem dX7_init_81 : decode cX7_init 81 = .ok (.newarray .int, 2) := by decide +kernel
theorem dX7_init_83 : decode cX7_init 83 = .ok (.putfield 46, 3) := by decide +kernel
theorem dX7_init_86 : decode cX7_init 86 = .ok (.aload_n 0, 1) := by decide +kernel
theorem dX7_init_87 : decode cX7_init 87 = .ok (.iconst 5, 1) := by decide +kernel
theorem dX7_init_88 : decode cX7_init 88 = .ok (.newarray .int, 2) := by decide +kernel
theorem dX7_init_90 : decode cX7_init 90 = .ok (.putfield 49, 3) := by decide +kernel
theorem dX7_init_93 : decode cX7_init 93 = .ok (.aload_n 0, 1) := by decide +kernel
theorem dX7_init_94 : decode cX7_init 94 = .ok (.iconst 3, 1) := by decide +kernel
theorem dX7_init_95 : decode cX7_init 95 = .ok (.newarray .int, 2) := by decide +kernel
theorem dX7_init_97 : decode cX7_init 97 = .ok (.putfield 52, 3) := by decide +kernel
theorem dX7_init_100 : decode cX7_init 100 = .ok (.aload_n 0, 1) := by decide +kernel
theorem dX7_init_101 : decode cX7_init 101 = .ok (.iconst 3, 1) := by decide +kernel
theorem dX7_init_102 : decode cX7_init 102 = .ok (.newarray .int, 2) := by decide +kernel
theorem dX7_init_104 : decode cX7_init 104 = .ok (.putfield 55, 3) := by decide +kernel
theorem dX7_init_107 : decode cX7_init 107 = .ok (.aload_n 0, 1) := by decide +kernel
theorem dX7_init_108 : decode cX7_init 108 = .ok (.iconst 3, 1) := by decide +kernel
theorem dX7_init_109 : decode cX7_init 109 = .ok (.newarray .float, 2) := by decide +kernel
theorem dX7_init_111 : decode cX7_init 111 = .ok (.putfield 58, 3) := by decide +kernel
theorem dX7_init_114 : decode cX7_init 114 = .ok (.aload_n 0, 1) := by decide +kernel
theorem dX7_init_115 : decode cX7_init 115 = .ok (.invokevirtual 61, 3) := by decide +kernel
theorem dX7_init_118 : decode cX7_init 118 = .ok (.aload_n 0, 1) := by decide +kernel
theorem dX7_init_119 : decode cX7_init 119 = .ok (.invokevirtual 64, 3) := by decide +kernel
theorem dX7_init_122 : decode cX7_init 122 = .ok (.aload_n 0, 1) := by decide +kernel
theorem dX7_init_123 : decode cX7_init 123 = .ok (.invokevirtual 67, 3) := by decide +kernel
theorem dX7_init_126 : decode cX7_init 126 = .ok (.return_, 1) := by decide +kernel
theorem dX7_both_0 : decode cX7_both 0 = .ok (.iload_n 2, 1) := by decide +kernel
theorem dX7_both_1 : decode cX7_both 1 = .ok (.istore 5, 2) := by decide +kernel
theorem dX7_both_3 : decode cX7_both 3 = .ok (.iload 5, 2) := by decide +kernel
theorem dX7_both_5 : decode cX7_both 5 = .ok (.iload_n 2, 1) := by decide +kernel
theorem dX7_both_6 : decode cX7_both 6 = .ok (.iload_n 3, 1) := by decide +kernel
theorem dX7_both_7 : decode cX7_both 7 = .ok (.iadd, 1) := by decide +kernel
theorem dX7_both_8 : decode cX7_both 8 = .ok (.if_icmp .ge 40, 3) := by decide +kernel
theorem dX7_both_11 : decode cX7_both 11 = .ok (.aload_n 0, 1) := by decide +kernel
theorem dX7_both_12 : decode cX7_both 12 = .ok (.getfield 7, 3) := by decide +kernel
theorem dX7_both_15 : decode cX7_both 15 = .ok (.bipush 13, 2) := by decide +kernel
theorem dX7_both_17 : decode cX7_both 17 = .ok (.iload_n 1, 1) := by decide +kernel
theorem dX7_both_18 : decode cX7_both 18 = .ok (.imul, 1) := by decide +kernel
theorem dX7_both_19 : decode cX7_both 19 = .ok (.iload 5, 2) := by decide +kernel
theorem dX7_both_21 : decode cX7_both 21 = .ok (.iadd, 1) := by decide +kernel
theorem dX7_both_22 : decode cX7_both 22 = .ok (.iload 4, 2) := by decide +kernel
theorem dX7_both_24 : decode cX7_both 24 = .ok (.iastore, 1) := by decide +kernel
theorem dX7_both_25 : decode cX7_both 25 = .ok (.aload_n 0, 1) := by decide +kernel
theorem dX7_both_26 : decode cX7_both 26 = .ok (.getfield 7, 3) := by decide +kernel
theorem dX7_both_29 : decode cX7_both 29 = .ok (.bipush 13, 2) := by decide +kernel
theorem dX7_both_31 : decode cX7_both 31 = .ok (.iload_n 1, 1) := by decide +kernel
theorem dX7_both_32 : decode cX7_both 32 = .ok (.imul, 1) := by decide +kernel
theorem dX7_both_33 : decode cX7_both 33 = .ok (.bipush 12, 2) := by decide +kernel
theorem dX7_both_35 : decode cX7_both 35 = .ok (.iadd, 1) := by decide +kernel
theorem dX7_both_36 : decode cX7_both 36 = .ok (.iload 5, 2) := by decide +kernel
theorem dX7_both_38 : decode cX7_both 38 = .ok (.isub, 1) := by decide +kernel
theorem dX7_both_39 : decode cX7_both 39 = .ok (.iload 4, 2) := by decide +kernel
theorem dX7_both_41 : decode cX7_both 41 = .ok (.iastore, 1) := by decide +kernel
theorem dX7_both_42 : decode cX7_both 42 = .ok (.iinc 5 1, 3) := by decide +kernel
theorem dX7_both_45 : decode cX7_both 45 = .ok (.goto (-42), 3) := by decide +kernel
theorem dX7_both_48 : decode cX7_both 48 = .ok (.return_, 1) := by decide +kernel
theorem dX7_draw_0 : decode cX7_draw 0 = .ok (.iconst 0, 1) := by decide +kernel
theorem dX7_draw_1 : decode cX7_draw 1 = .ok (.istore_n 1, 1) := by decide +kernel
theorem dX7_draw_2 : decode cX7_draw 2 = .ok (.iload_n 1, 1) := by decide +kernel
theorem dX7_draw_3 : decode cX7_draw 3 = .ok (.bipush 117, 2) := by decide +kernel
theorem dX7_draw_5 : decode cX7_draw 5 = .ok (.if_icmp .ge 16, 3) := by decide +kernel
theorem dX7_draw_8 : decode cX7_draw 8 = .ok (.aload_n 0, 1) := by decide +kernel
theorem dX7_draw_9 : decode cX7_draw 9 = .ok (.getfield 7, 3) := by decide +kernel
theorem dX7_draw_12 : decode cX7_draw 12 = .ok (.iload_n 1, 1) := by decide +kernel
theorem dX7_draw_13 : decode cX7_draw 13 = .ok (.iconst 1, 1) := by decide +kernel
theorem dX7_draw_14 : decode cX7_draw 14 = .ok (.iastore, 1) := by decide +kernel
theorem dX7_draw_15 : decode cX7_draw 15 = .ok (.iinc 1 1, 3) := by decide +kernel
theorem dX7_draw_18 : decode cX7_draw 18 = .ok (.goto (-16), 3) := by decide +kernel
theorem dX7_draw_21 : decode cX7_draw 21 = .ok (.iconst 1, 1) := by decide +kernel
theorem dX7_draw_22 : decode cX7_draw 22 = .ok (.istore_n 1, 1) := by decide +kernel
theorem dX7_draw_23 : decode cX7_draw 23 = .ok (.iload_n 1, 1) := by decide +kernel
theorem dX7_draw_24 : decode cX7_draw 24 = .ok (.bipush 8, 2) := by decide +kernel
theorem dX7_draw_26 : decode cX7_draw 26 = .ok (.if_icmp .ge 25, 3) := by decide +kernel
theorem dX7_draw_29 : decode cX7_draw 29 = .ok (.aload_n 0, 1) := by decide +kernel
theorem dX7_draw_30 : decode cX7_draw 30 = .ok (.iload_n 1, 1) := by decide +kernel
theorem dX7_draw_31 : decode cX7_draw 31 = .ok (.iconst 1, 1) := by decide +kernel
theorem dX7_draw_32 : decode cX7_draw 32 = .ok (.iconst 1, 1) := by decide +kernel
theorem dX7_draw_33 : decode cX7_draw 33 = .ok (.iconst 3, 1) := by decide +kernel
theorem dX7_draw_34 : decode cX7_draw 34 = .ok (.invokevirtual 70, 3) := by decide +kernel
theorem dX7_draw_37 : decode cX7_draw 37 = .ok (.aload_n 0, 1) := by decide +kernel
theorem dX7_draw_38 : decode cX7_draw 38 = .ok (.iload_n 1, 1) := by decide +kernel
theorem dX7_draw_39 : decode cX7_draw 39 = .ok (.iconst 2, 1) := by decide +kernel
theorem dX7_draw_40 : decode cX7_draw 40 = .ok (.iconst 4, 1) := by decide +kernel
theorem dX7_draw_41 : decode cX7_draw 41 = .ok (.iconst 2, 1) := by decide +kernel
theorem dX7_draw_42 : decode cX7_draw 42 = .ok (.invokevirtual 70, 3) := by decide +kernel
theorem dX7_draw_45 : decode cX7_draw 45 = .ok (.iinc 1 6, 3) := by decide +kernel
theorem dX7_draw_48 : decode cX7_draw 48 = .ok (.goto (-25), 3) := by decide +kernel
theorem dX7_draw_51 : decode cX7_draw 51 = .ok (.iconst 2, 1) := by decide +kernel
theorem dX7_draw_52 : decode cX7_draw 52 = .ok (.istore_n 1, 1) := by decide +kernel
theorem dX7_draw_53 : decode cX7_draw 53 = .ok (.iload_n 1, 1) := by decide +kernel
theorem dX7_draw_54 : decode cX7_draw 54 = .ok (.bipush 7, 2) := by decide +kernel
theorem dX7_draw_56 : decode cX7_draw 56 = .ok (.if_icmp .ge 25, 3) := by decide +kernel
theorem dX7_draw_59 : decode cX7_draw 59 = .ok (.aload_n 0, 1) := by decide +kernel
theorem dX7_draw_60 : decode cX7_draw 60 = .ok (.iload_n 1, 1) := by decide +kernel
theorem dX7_draw_61 : decode cX7_draw 61 = .ok (.iconst 1, 1) := by decide +kernel
theorem dX7_draw_62 : decode cX7_draw 62 = .ok (.iconst 1, 1) := by decide +kernel
theorem dX7_draw_63 : decode cX7_draw 63 = .ok (.iconst 2, 1) := by decide +kernel
theorem dX7_draw_64 : decode cX7_draw 64 = .ok (.invokevirtual 70, 3) := by decide +kernel
theorem dX7_draw_67 : decode cX7_draw 67 = .ok (.aload_n 0, 1) := by decide +kernel
theorem dX7_draw_68 : decode cX7_draw 68 = .ok (.iload_n 1, 1) := by decide +kernel
theorem dX7_draw_69 : decode cX7_draw 69 = .ok (.iconst 4, 1) := by decide +kernel
theorem dX7_draw_70 : decode cX7_draw 70 = .ok (.iconst 3, 1) := by decide +kernel
theorem dX7_draw_71 : decode cX7_draw 71 = .ok (.iconst 2, 1) := by decide +kernel
theorem dX7_draw_72 : decode cX7_draw 72 = .ok (.invokevirtual 70, 3) := by decide +kernel
theorem dX7_draw_75 : decode cX7_draw 75 = .ok (.iinc 1 4, 3) := by decide +kernel
theorem dX7_draw_78 : decode cX7_draw 78 = .ok (.goto (-25), 3) := by decide +kernel
theorem dX7_draw_81 : decode cX7_draw 81 = .ok (.iconst 3, 1) := by decide +kernel
theorem dX7_draw_82 : decode cX7_draw 82 = .ok (.istore_n 1, 1) := by decide +kernel
theorem dX7_draw_83 : decode cX7_draw 83 = .ok (.iload_n 1, 1) := by decide +kernel
theorem dX7_draw_84 : decode cX7_draw 84 = .ok (.bipush 6, 2) := by decide +kernel
theorem dX7_draw_86 : decode cX7_draw 86 = .ok (.if_icmp .ge 25, 3) := by decide +kernel
theorem dX7_draw_89 : decode cX7_draw 89 = .ok (.aload_n 0, 1) := by decide +kernel
theorem dX7_draw_90 : decode cX7_draw 90 = .ok (.iload_n 1, 1) := by decide +kernel
theorem dX7_draw_91 : decode cX7_draw 91 = .ok (.iconst 1, 1) := by decide +kernel
theorem dX7_draw_92 : decode cX7_draw 92 = .ok (.iconst 1, 1) := by decide +kernel
theorem dX7_draw_93 : decode cX7_draw 93 = .ok (.iconst 2, 1) := by decide +kernel
theorem dX7_draw_94 : decode cX7_draw 94 = .ok (.invokevirtual 70, 3) := by decide +kernel
theorem dX7_draw_97 : decode cX7_draw 97 = .ok (.aload_n 0, 1) := by decide +kernel
theorem dX7_draw_98 : decode cX7_draw 98 = .ok (.iload_n 1, 1) := by decide +kernel
theorem dX7_draw_99 : decode cX7_draw 99 = .ok (.iconst 3, 1) := by decide +kernel
theorem dX7_draw_100 : decode cX7_draw 100 = .ok (.iconst 2, 1) := by decide +kernel
theorem dX7_draw_101 : decode cX7_draw 101 = .ok (.iconst 2, 1) := by decide +kernel
theorem dX7_draw_102 : decode cX7_draw 102 = .ok (.invokevirtual 70, 3) := by decide +kernel
theorem dX7_draw_105 : decode cX7_draw 105 = .ok (.iinc 1 2, 3) := by decide +kernel
theorem dX7_draw_108 : decode cX7_draw 108 = .ok (.goto (-25), 3) := by decide +kernel
theorem dX7_draw_111 : decode cX7_draw 111 = .ok (.aload_n 0, 1) := by decide +kernel
theorem dX7_draw_112 : decode cX7_draw 112 = .ok (.iconst 3, 1) := by decide +kernel
theorem dX7_draw_113 : decode cX7_draw 113 = .ok (.bipush 6, 2) := by decide +kernel
theorem dX7_draw_115 : decode cX7_draw 115 = .ok (.iconst 1, 1) := by decide +kernel
theorem dX7_draw_116 : decode cX7_draw 116 = .ok (.iconst 4, 1) := by decide +kernel
theorem dX7_draw_117 : decode cX7_draw 117 = .ok (.invokevirtual 70, 3) := by decide +kernel
theorem dX7_draw_120 : decode cX7_draw 120 = .ok (.aload_n 0, 1) := by decide +kernel
theorem dX7_draw_121 : decode cX7_draw 121 = .ok (.iconst 4, 1) := by decide +kernel
theorem dX7_draw_122 : decode cX7_draw 122 = .ok (.iconst 0, 1) := by decide +kernel
theorem dX7_draw_123 : decode cX7_draw 123 = .ok (.iconst 4, 1) := by decide +kernel
theorem dX7_draw_124 : decode cX7_draw 124 = .ok (.iconst 2, 1) := by decide +kernel
theorem dX7_draw_125 : decode cX7_draw 125 = .ok (.invokevirtual 70, 3) := by decide +kernel
theorem dX7_draw_128 : decode cX7_draw 128 = .ok (.aload_n 0, 1) := by decide +kernel
theorem dX7_draw_129 : decode cX7_draw 129 = .ok (.iconst 4, 1) := by decide +kernel
theorem dX7_draw_130 : decode cX7_draw 130 = .ok (.iconst 5, 1) := by decide +kernel
theorem dX7_draw_131 : decode cX7_draw 131 = .ok (.iconst 2, 1) := by decide +kernel
theorem dX7_draw_132 : decode cX7_draw 132 = .ok (.iconst 4, 1) := by decide +kernel
theorem dX7_draw_133 : decode cX7_draw 133 = .ok (.invokevirtual 70, 3) := by decide +kernel
theorem dX7_draw_136 : decode cX7_draw 136 = .ok (.return_, 1) := by decide +kernel
theorem dX7_fill_0 : decode cX7_fill 0 = .ok (.iconst 0, 1) := by decide +kernel
theorem dX7_fill_1 : decode cX7_fill 1 = .ok (.istore_n 1, 1) := by decide +kernel
theorem dX7_fill_2 : decode cX7_fill 2 = .ok (.iload_n 1, 1) := by decide +kernel
theorem dX7_fill_3 : decode cX7_fill 3 = .ok (.bipush 117, 2) := by decide +kernel
theorem dX7_fill_5 : decode cX7_fill 5 = .ok (.if_icmp .ge 21, 3) := by decide +kernel
theorem dX7_fill_8 : decode cX7_fill 8 = .ok (.aload_n 0, 1) := by decide +kernel
theorem dX7_fill_9 : decode cX7_fill 9 = .ok (.getfield 13, 3) := by decide +kernel
theorem dX7_fill_12 : decode cX7_fill 12 = .ok (.iload_n 1, 1) := by decide +kernel
theorem dX7_fill_13 : decode cX7_fill 13 = .ok (.aload_n 0, 1) := by decide +kernel
theorem dX7_fill_14 : decode cX7_fill 14 = .ok (.getfield 7, 3) := by decide +kernel
theorem dX7_fill_17 : decode cX7_fill 17 = .ok (.iload_n 1, 1) := by decide +kernel
theorem dX7_fill_18 : decode cX7_fill 18 = .ok (.iaload, 1) := by decide +kernel
theorem dX7_fill_19 : decode cX7_fill 19 = .ok (.iastore, 1) := by decide +kernel
theorem dX7_fill_20 : decode cX7_fill 20 = .ok (.iinc 1 1, 3) := by decide +kernel
theorem dX7_fill_23 : decode cX7_fill 23 = .ok (.goto (-21), 3) := by decide +kernel
theorem dX7_fill_26 : decode cX7_fill 26 = .ok (.return_, 1) := by decide +kernel
theorem dX7_put_0 : decode cX7_put 0 = .ok (.aload_n 0, 1) := by decide +kernel
theorem dX7_put_1 : decode cX7_put 1 = .ok (.getfield 23, 3) := by decide +kernel
theorem dX7_put_4 : decode cX7_put 4 = .ok (.iload_n 1, 1) := by decide +kernel
theorem dX7_put_5 : decode cX7_put 5 = .ok (.iload_n 2, 1) := by decide +kernel
theorem dX7_put_6 : decode cX7_put 6 = .ok (.iastore, 1) := by decide +kernel
theorem dX7_put_7 : decode cX7_put 7 = .ok (.aload_n 0, 1) := by decide +kernel
theorem dX7_put_8 : decode cX7_put 8 = .ok (.getfield 26, 3) := by decide +kernel
theorem dX7_put_11 : decode cX7_put 11 = .ok (.iload_n 1, 1) := by decide +kernel
theorem dX7_put_12 : decode cX7_put 12 = .ok (.iload_n 3, 1) := by decide +kernel
theorem dX7_put_13 : decode cX7_put 13 = .ok (.iastore, 1) := by decide +kernel
theorem dX7_put_14 : decode cX7_put 14 = .ok (.aload_n 0, 1) := by decide +kernel
theorem dX7_put_15 : decode cX7_put 15 = .ok (.getfield 29, 3) := by decide +kernel
theorem dX7_put_18 : decode cX7_put 18 = .ok (.iload_n 1, 1) := by decide +kernel
theorem dX7_put_19 : decode cX7_put 19 = .ok (.iload 4, 2) := by decide +kernel
theorem dX7_put_21 : decode cX7_put 21 = .ok (.iastore, 1) := by decide +kernel
theorem dX7_put_22 : decode cX7_put 22 = .ok (.aload_n 0, 1) := by decide +kernel
theorem dX7_put_23 : decode cX7_put 23 = .ok (.getfield 32, 3) := by decide +kernel
theorem dX7_put_26 : decode cX7_put 26 = .ok (.iload_n 1, 1) := by decide +kernel
theorem dX7_put_27 : decode cX7_put 27 = .ok (.fconst 0, 1) := by decide +kernel
theorem dX7_put_28 : decode cX7_put 28 = .ok (.fastore, 1) := by decide +kernel
theorem dX7_put_29 : decode cX7_put 29 = .ok (.aload_n 0, 1) := by decide +kernel
theorem dX7_put_30 : decode cX7_put 30 = .ok (.getfield 36, 3) := by decide +kernel
theorem dX7_put_33 : decode cX7_put 33 = .ok (.iload_n 1, 1) := by decide +kernel
theorem dX7_put_34 : decode cX7_put 34 = .ok (.iconst 0, 1) := by decide +kernel
theorem dX7_put_35 : decode cX7_put 35 = .ok (.bastore, 1) := by decide +kernel
theorem dX7_put_36 : decode cX7_put 36 = .ok (.aload_n 0, 1) := by decide +kernel
theorem dX7_put_37 : decode cX7_put 37 = .ok (.getfield 40, 3) := by decide +kernel
theorem dX7_put_40 : decode cX7_put 40 = .ok (.iload_n 1, 1) := by decide +kernel
theorem dX7_put_41 : decode cX7_put 41 = .ok (.iload 5, 2) := by decide +kernel
theorem dX7_put_43 : decode cX7_put 43 = .ok (.iastore, 1) := by decide +kernel
theorem dX7_put_44 : decode cX7_put 44 = .ok (.aload_n 0, 1) := by decide +kernel
theorem dX7_put_45 : decode cX7_put 45 = .ok (.getfield 43, 3) := by decide +kernel
theorem dX7_put_48 : decode cX7_put 48 = .ok (.iload_n 1, 1) := by decide +kernel
theorem dX7_put_49 : decode cX7_put 49 = .ok (.iload 5, 2) := by decide +kernel
theorem dX7_put_51 : decode cX7_put 51 = .ok (.ifCond .le 7, 3) := by decide +kernel
theorem dX7_put_54 : decode cX7_put 54 = .ok (.iconst 1, 1) := by decide +kernel
theorem dX7_put_55 : decode cX7_put 55 = .ok (.goto 4, 3) := by decide +kernel
theorem dX7_put_58 : decode cX7_put 58 = .ok (.iconst 0, 1) := by decide +kernel
theorem dX7_put_59 : decode cX7_put 59 = .ok (.bastore, 1) := by decide +kernel
theorem dX7_put_60 : decode cX7_put 60 = .ok (.return_, 1) := by decide +kernel
theorem dX7_place_0 : decode cX7_place 0 = .ok (.aload_n 0, 1) := by decide +kernel
theorem dX7_place_1 : decode cX7_place 1 = .ok (.iconst 0, 1) := by decide +kernel
theorem dX7_place_2 : decode cX7_place 2 = .ok (.bipush 6, 2) := by decide +kernel
theorem dX7_place_4 : decode cX7_place 4 = .ok (.bipush 6, 2) := by decide +kernel
theorem dX7_place_6 : decode cX7_place 6 = .ok (.iconst 1, 1) := by decide +kernel
theorem dX7_place_7 : decode cX7_place 7 = .ok (.iconst 0, 1) := by decide +kernel
theorem dX7_place_8 : decode cX7_place 8 = .ok (.invokevirtual 74, 3) := by decide +kernel
theorem dX7_place_11 : decode cX7_place 11 = .ok (.aload_n 0, 1) := by decide +kernel
theorem dX7_place_12 : decode cX7_place 12 = .ok (.iconst 1, 1) := by decide +kernel
theorem dX7_place_13 : decode cX7_place 13 = .ok (.bipush 6, 2) := by decide +kernel
theorem dX7_place_15 : decode cX7_place 15 = .ok (.iconst 2, 1) := by decide +kernel
theorem dX7_place_16 : decode cX7_place 16 = .ok (.iconst 1, 1) := by decide +kernel
theorem dX7_place_17 : decode cX7_place 17 = .ok (.iconst 0, 1) := by decide +kernel
theorem dX7_place_18 : decode cX7_place 18 = .ok (.invokevirtual 74, 3) := by decide +kernel
theorem dX7_place_21 : decode cX7_place 21 = .ok (.aload_n 0, 1) := by decide +kernel
theorem dX7_place_22 : decode cX7_place 22 = .ok (.iconst 2, 1) := by decide +kernel
theorem dX7_place_23 : decode cX7_place 23 = .ok (.bipush 6, 2) := by decide +kernel
theorem dX7_place_25 : decode cX7_place 25 = .ok (.iconst 4, 1) := by decide +kernel
theorem dX7_place_26 : decode cX7_place 26 = .ok (.iconst 0, 1) := by decide +kernel
theorem dX7_place_27 : decode cX7_place 27 = .ok (.bipush 40, 2) := by decide +kernel
theorem dX7_place_29 : decode cX7_place 29 = .ok (.invokevirtual 74, 3) := by decide +kernel
theorem dX7_place_32 : decode cX7_place 32 = .ok (.aload_n 0, 1) := by decide +kernel
theorem dX7_place_33 : decode cX7_place 33 = .ok (.iconst 3, 1) := by decide +kernel
theorem dX7_place_34 : decode cX7_place 34 = .ok (.iconst 5, 1) := by decide +kernel
theorem dX7_place_35 : decode cX7_place 35 = .ok (.iconst 4, 1) := by decide +kernel
theorem dX7_place_36 : decode cX7_place 36 = .ok (.iconst 0, 1) := by decide +kernel
theorem dX7_place_37 : decode cX7_place 37 = .ok (.bipush 80, 2) := by decide +kernel
theorem dX7_place_39 : decode cX7_place 39 = .ok (.invokevirtual 74, 3) := by decide +kernel
theorem dX7_place_42 : decode cX7_place 42 = .ok (.aload_n 0, 1) := by decide +kernel
theorem dX7_place_43 : decode cX7_place 43 = .ok (.iconst 4, 1) := by decide +kernel
theorem dX7_place_44 : decode cX7_place 44 = .ok (.bipush 7, 2) := by decide +kernel
theorem dX7_place_46 : decode cX7_place 46 = .ok (.iconst 4, 1) := by decide +kernel
theorem dX7_place_47 : decode cX7_place 47 = .ok (.iconst 0, 1) := by decide +kernel
theorem dX7_place_48 : decode cX7_place 48 = .ok (.bipush 120, 2) := by decide +kernel
theorem dX7_place_50 : decode cX7_place 50 = .ok (.invokevirtual 74, 3) := by decide +kernel
theorem dX7_place_53 : decode cX7_place 53 = .ok (.aload_n 0, 1) := by decide +kernel
theorem dX7_place_54 : decode cX7_place 54 = .ok (.iconst 0, 1) := by decide +kernel
theorem dX7_place_55 : decode cX7_place 55 = .ok (.putfield 78, 3) := by decide +kernel
theorem dX7_place_58 : decode cX7_place 58 = .ok (.aload_n 0, 1) := by decide +kernel
theorem dX7_place_59 : decode cX7_place 59 = .ok (.iconst 0, 1) := by decide +kernel
theorem dX7_place_60 : decode cX7_place 60 = .ok (.putfield 81, 3) := by decide +kernel
theorem dX7_place_63 : decode cX7_place 63 = .ok (.return_, 1) := by decide +kernel
theorem dX7_across_0 : decode cX7_across 0 = .ok (.iload_n 0, 1) := by decide +kernel
theorem dX7_across_1 : decode cX7_across 1 = .ok (.iconst 1, 1) := by decide +kernel
theorem dX7_across_2 : decode cX7_across 2 = .ok (.if_icmp .ne 7, 3) := by decide +kernel
theorem dX7_across_5 : decode cX7_across 5 = .ok (.iconst (-1), 1) := by decide +kernel
theorem dX7_across_6 : decode cX7_across 6 = .ok (.goto 13, 3) := by decide +kernel
theorem dX7_across_9 : decode cX7_across 9 = .ok (.iload_n 0, 1) := by decide +kernel
theorem dX7_across_10 : decode cX7_across 10 = .ok (.iconst 3, 1) := by decide +kernel
theorem dX7_across_11 : decode cX7_across 11 = .ok (.if_icmp .ne 7, 3) := by decide +kernel
theorem dX7_across_14 : decode cX7_across 14 = .ok (.iconst 1, 1) := by decide +kernel
theorem dX7_across_15 : decode cX7_across 15 = .ok (.goto 4, 3) := by decide +kernel
theorem dX7_across_18 : decode cX7_across 18 = .ok (.iconst 0, 1) := by decide +kernel
theorem dX7_across_19 : decode cX7_across 19 = .ok (.ireturn, 1) := by decide +kernel
theorem dX7_down_0 : decode cX7_down 0 = .ok (.iload_n 0, 1) := by decide +kernel
theorem dX7_down_1 : decode cX7_down 1 = .ok (.ifCond .ne 7, 3) := by decide +kernel
theorem dX7_down_4 : decode cX7_down 4 = .ok (.iconst (-1), 1) := by decide +kernel
theorem dX7_down_5 : decode cX7_down 5 = .ok (.goto 13, 3) := by decide +kernel
theorem dX7_down_8 : decode cX7_down 8 = .ok (.iload_n 0, 1) := by decide +kernel
theorem dX7_down_9 : decode cX7_down 9 = .ok (.iconst 2, 1) := by decide +kernel
theorem dX7_down_10 : decode cX7_down 10 = .ok (.if_icmp .ne 7, 3) := by decide +kernel
theorem dX7_down_13 : decode cX7_down 13 = .ok (.iconst 1, 1) := by decide +kernel
theorem dX7_down_14 : decode cX7_down 14 = .ok (.goto 4, 3) := by decide +kernel
theorem dX7_down_17 : decode cX7_down 17 = .ok (.iconst 0, 1) := by decide +kernel
theorem dX7_down_18 : decode cX7_down 18 = .ok (.ireturn, 1) := by decide +kernel
theorem dX7_around_0 : decode cX7_around 0 = .ok (.iload_n 0, 1) := by decide +kernel
theorem dX7_around_1 : decode cX7_around 1 = .ok (.ifCond .ge 10, 3) := by decide +kernel
theorem dX7_around_4 : decode cX7_around 4 = .ok (.iload_n 0, 1) := by decide +kernel
theorem dX7_around_5 : decode cX7_around 5 = .ok (.bipush 13, 2) := by decide +kernel
theorem dX7_around_7 : decode cX7_around 7 = .ok (.iadd, 1) := by decide +kernel
theorem dX7_around_8 : decode cX7_around 8 = .ok (.goto 17, 3) := by decide +kernel
theorem dX7_around_11 : decode cX7_around 11 = .ok (.iload_n 0, 1) := by decide +kernel
theorem dX7_around_12 : decode cX7_around 12 = .ok (.bipush 12, 2) := by decide +kernel
theorem dX7_around_14 : decode cX7_around 14 = .ok (.if_icmp .le 10, 3) := by decide +kernel
theorem dX7_around_17 : decode cX7_around 17 = .ok (.iload_n 0, 1) := by decide +kernel
theorem dX7_around_18 : decode cX7_around 18 = .ok (.bipush 13, 2) := by decide +kernel
theorem dX7_around_20 : decode cX7_around 20 = .ok (.isub, 1) := by decide +kernel
theorem dX7_around_21 : decode cX7_around 21 = .ok (.goto 4, 3) := by decide +kernel
theorem dX7_around_24 : decode cX7_around 24 = .ok (.iload_n 0, 1) := by decide +kernel
theorem dX7_around_25 : decode cX7_around 25 = .ok (.ireturn, 1) := by decide +kernel
