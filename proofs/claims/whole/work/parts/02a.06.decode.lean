theorem dX7_nextColumn_0 : decode cX7_nextColumn 0 = .ok (.aload_n 0, 1) := by decide +kernel
theorem dX7_nextColumn_1 : decode cX7_nextColumn 1 = .ok (.getfield 23, 3) := by decide +kernel
theorem dX7_nextColumn_4 : decode cX7_nextColumn 4 = .ok (.iload_n 1, 1) := by decide +kernel
theorem dX7_nextColumn_5 : decode cX7_nextColumn 5 = .ok (.iaload, 1) := by decide +kernel
theorem dX7_nextColumn_6 : decode cX7_nextColumn 6 = .ok (.iload_n 2, 1) := by decide +kernel
theorem dX7_nextColumn_7 : decode cX7_nextColumn 7 = .ok (.invokestatic 84, 3) := by decide +kernel
theorem dX7_nextColumn_10 : decode cX7_nextColumn 10 = .ok (.iadd, 1) := by decide +kernel
theorem dX7_nextColumn_11 : decode cX7_nextColumn 11 = .ok (.invokestatic 88, 3) := by decide +kernel
theorem dX7_nextColumn_14 : decode cX7_nextColumn 14 = .ok (.ireturn, 1) := by decide +kernel
theorem dX7_nextRow_0 : decode cX7_nextRow 0 = .ok (.aload_n 0, 1) := by decide +kernel
theorem dX7_nextRow_1 : decode cX7_nextRow 1 = .ok (.getfield 26, 3) := by decide +kernel
theorem dX7_nextRow_4 : decode cX7_nextRow 4 = .ok (.iload_n 1, 1) := by decide +kernel
theorem dX7_nextRow_5 : decode cX7_nextRow 5 = .ok (.iaload, 1) := by decide +kernel
theorem dX7_nextRow_6 : decode cX7_nextRow 6 = .ok (.iload_n 2, 1) := by decide +kernel
theorem dX7_nextRow_7 : decode cX7_nextRow 7 = .ok (.invokestatic 91, 3) := by decide +kernel
theorem dX7_nextRow_10 : decode cX7_nextRow 10 = .ok (.iadd, 1) := by decide +kernel
theorem dX7_nextRow_11 : decode cX7_nextRow 11 = .ok (.ireturn, 1) := by decide +kernel
theorem dX7_open_0 : decode cX7_open 0 = .ok (.aload_n 0, 1) := by decide +kernel
theorem dX7_open_1 : decode cX7_open 1 = .ok (.iload_n 1, 1) := by decide +kernel
theorem dX7_open_2 : decode cX7_open 2 = .ok (.iload_n 2, 1) := by decide +kernel
theorem dX7_open_3 : decode cX7_open 3 = .ok (.invokevirtual 94, 3) := by decide +kernel
theorem dX7_open_6 : decode cX7_open 6 = .ok (.istore_n 3, 1) := by decide +kernel
theorem dX7_open_7 : decode cX7_open 7 = .ok (.iload_n 3, 1) := by decide +kernel
theorem dX7_open_8 : decode cX7_open 8 = .ok (.ifCond .lt 9, 3) := by decide +kernel
theorem dX7_open_11 : decode cX7_open 11 = .ok (.iload_n 3, 1) := by decide +kernel
theorem dX7_open_12 : decode cX7_open 12 = .ok (.bipush 8, 2) := by decide +kernel
theorem dX7_open_14 : decode cX7_open 14 = .ok (.if_icmp .le 5, 3) := by decide +kernel
theorem dX7_open_17 : decode cX7_open 17 = .ok (.iconst 0, 1) := by decide +kernel
theorem dX7_open_18 : decode cX7_open 18 = .ok (.ireturn, 1) := by decide +kernel
theorem dX7_open_19 : decode cX7_open 19 = .ok (.aload_n 0, 1) := by decide +kernel
theorem dX7_open_20 : decode cX7_open 20 = .ok (.getfield 13, 3) := by decide +kernel
theorem dX7_open_23 : decode cX7_open 23 = .ok (.bipush 13, 2) := by decide +kernel
theorem dX7_open_25 : decode cX7_open 25 = .ok (.iload_n 3, 1) := by decide +kernel
theorem dX7_open_26 : decode cX7_open 26 = .ok (.imul, 1) := by decide +kernel
theorem dX7_open_27 : decode cX7_open 27 = .ok (.aload_n 0, 1) := by decide +kernel
theorem dX7_open_28 : decode cX7_open 28 = .ok (.iload_n 1, 1) := by decide +kernel
theorem dX7_open_29 : decode cX7_open 29 = .ok (.iload_n 2, 1) := by decide +kernel
theorem dX7_open_30 : decode cX7_open 30 = .ok (.invokevirtual 98, 3) := by decide +kernel
theorem dX7_open_33 : decode cX7_open 33 = .ok (.iadd, 1) := by decide +kernel
theorem dX7_open_34 : decode cX7_open 34 = .ok (.iaload, 1) := by decide +kernel
theorem dX7_open_35 : decode cX7_open 35 = .ok (.istore 4, 2) := by decide +kernel
theorem dX7_open_37 : decode cX7_open 37 = .ok (.iload 4, 2) := by decide +kernel
theorem dX7_open_39 : decode cX7_open 39 = .ok (.iconst 1, 1) := by decide +kernel
theorem dX7_open_40 : decode cX7_open 40 = .ok (.if_icmp .eq 26, 3) := by decide +kernel
theorem dX7_open_43 : decode cX7_open 43 = .ok (.iload 4, 2) := by decide +kernel
theorem dX7_open_45 : decode cX7_open 45 = .ok (.iconst 4, 1) := by decide +kernel
theorem dX7_open_46 : decode cX7_open 46 = .ok (.if_icmp .ne 16, 3) := by decide +kernel
theorem dX7_open_49 : decode cX7_open 49 = .ok (.iload_n 1, 1) := by decide +kernel
theorem dX7_open_50 : decode cX7_open 50 = .ok (.ifCond .le 16, 3) := by decide +kernel
theorem dX7_open_53 : decode cX7_open 53 = .ok (.aload_n 0, 1) := by decide +kernel
theorem dX7_open_54 : decode cX7_open 54 = .ok (.getfield 43, 3) := by decide +kernel
theorem dX7_open_57 : decode cX7_open 57 = .ok (.iload_n 1, 1) := by decide +kernel
theorem dX7_open_58 : decode cX7_open 58 = .ok (.baload, 1) := by decide +kernel
theorem dX7_open_59 : decode cX7_open 59 = .ok (.ifCond .eq 7, 3) := by decide +kernel
theorem dX7_open_62 : decode cX7_open 62 = .ok (.iconst 1, 1) := by decide +kernel
theorem dX7_open_63 : decode cX7_open 63 = .ok (.goto 4, 3) := by decide +kernel
theorem dX7_open_66 : decode cX7_open 66 = .ok (.iconst 0, 1) := by decide +kernel
theorem dX7_open_67 : decode cX7_open 67 = .ok (.ireturn, 1) := by decide +kernel
theorem dX7_step_0 : decode cX7_step 0 = .ok (.aload_n 0, 1) := by decide +kernel
theorem dX7_step_1 : decode cX7_step 1 = .ok (.iload_n 1, 1) := by decide +kernel
theorem dX7_step_2 : decode cX7_step 2 = .ok (.aload_n 0, 1) := by decide +kernel
theorem dX7_step_3 : decode cX7_step 3 = .ok (.getfield 29, 3) := by decide +kernel
theorem dX7_step_6 : decode cX7_step 6 = .ok (.iload_n 1, 1) := by decide +kernel
theorem dX7_step_7 : decode cX7_step 7 = .ok (.iaload, 1) := by decide +kernel
theorem dX7_step_8 : decode cX7_step 8 = .ok (.invokevirtual 98, 3) := by decide +kernel
theorem dX7_step_11 : decode cX7_step 11 = .ok (.istore_n 2, 1) := by decide +kernel
theorem dX7_step_12 : decode cX7_step 12 = .ok (.aload_n 0, 1) := by decide +kernel
theorem dX7_step_13 : decode cX7_step 13 = .ok (.getfield 26, 3) := by decide +kernel
theorem dX7_step_16 : decode cX7_step 16 = .ok (.iload_n 1, 1) := by decide +kernel
theorem dX7_step_17 : decode cX7_step 17 = .ok (.aload_n 0, 1) := by decide +kernel
theorem dX7_step_18 : decode cX7_step 18 = .ok (.iload_n 1, 1) := by decide +kernel
theorem dX7_step_19 : decode cX7_step 19 = .ok (.aload_n 0, 1) := by decide +kernel
theorem dX7_step_20 : decode cX7_step 20 = .ok (.getfield 29, 3) := by decide +kernel
theorem dX7_step_23 : decode cX7_step 23 = .ok (.iload_n 1, 1) := by decide +kernel
theorem dX7_step_24 : decode cX7_step 24 = .ok (.iaload, 1) := by decide +kernel
theorem dX7_step_25 : decode cX7_step 25 = .ok (.invokevirtual 94, 3) := by decide +kernel
theorem dX7_step_28 : decode cX7_step 28 = .ok (.iastore, 1) := by decide +kernel
theorem dX7_step_29 : decode cX7_step 29 = .ok (.aload_n 0, 1) := by decide +kernel
theorem dX7_step_30 : decode cX7_step 30 = .ok (.getfield 23, 3) := by decide +kernel
theorem dX7_step_33 : decode cX7_step 33 = .ok (.iload_n 1, 1) := by decide +kernel
theorem dX7_step_34 : decode cX7_step 34 = .ok (.iload_n 2, 1) := by decide +kernel
theorem dX7_step_35 : decode cX7_step 35 = .ok (.iastore, 1) := by decide +kernel
theorem dX7_step_36 : decode cX7_step 36 = .ok (.return_, 1) := by decide +kernel
theorem dX7_points_0 : decode cX7_points 0 = .ok (.aload_n 0, 1) := by decide +kernel
theorem dX7_points_1 : decode cX7_points 1 = .ok (.dup, 1) := by decide +kernel
theorem dX7_points_2 : decode cX7_points 2 = .ok (.getfield 101, 3) := by decide +kernel
theorem dX7_points_5 : decode cX7_points 5 = .ok (.iload_n 1, 1) := by decide +kernel
theorem dX7_points_6 : decode cX7_points 6 = .ok (.iadd, 1) := by decide +kernel
theorem dX7_points_7 : decode cX7_points 7 = .ok (.putfield 101, 3) := by decide +kernel
theorem dX7_points_10 : decode cX7_points 10 = .ok (.aload_n 0, 1) := by decide +kernel
theorem dX7_points_11 : decode cX7_points 11 = .ok (.getfield 101, 3) := by decide +kernel
theorem dX7_points_14 : decode cX7_points 14 = .ok (.sipush 3000, 3) := by decide +kernel
theorem dX7_points_17 : decode cX7_points 17 = .ok (.if_icmp .lt 25, 3) := by decide +kernel
theorem dX7_points_20 : decode cX7_points 20 = .ok (.aload_n 0, 1) := by decide +kernel
theorem dX7_points_21 : decode cX7_points 21 = .ok (.getfield 104, 3) := by decide +kernel
theorem dX7_points_24 : decode cX7_points 24 = .ok (.ifCond .ne 18, 3) := by decide +kernel
theorem dX7_points_27 : decode cX7_points 27 = .ok (.aload_n 0, 1) := by decide +kernel
theorem dX7_points_28 : decode cX7_points 28 = .ok (.iconst 1, 1) := by decide +kernel
theorem dX7_points_29 : decode cX7_points 29 = .ok (.putfield 104, 3) := by decide +kernel
theorem dX7_points_32 : decode cX7_points 32 = .ok (.aload_n 0, 1) := by decide +kernel
theorem dX7_points_33 : decode cX7_points 33 = .ok (.dup, 1) := by decide +kernel
theorem dX7_points_34 : decode cX7_points 34 = .ok (.getfield 108, 3) := by decide +kernel
theorem dX7_points_37 : decode cX7_points 37 = .ok (.iconst 1, 1) := by decide +kernel
theorem dX7_points_38 : decode cX7_points 38 = .ok (.iadd, 1) := by decide +kernel
theorem dX7_points_39 : decode cX7_points 39 = .ok (.putfield 108, 3) := by decide +kernel
theorem dX7_points_42 : decode cX7_points 42 = .ok (.aload_n 0, 1) := by decide +kernel
theorem dX7_points_43 : decode cX7_points 43 = .ok (.aload_n 0, 1) := by decide +kernel
theorem dX7_points_44 : decode cX7_points 44 = .ok (.getfield 101, 3) := by decide +kernel
theorem dX7_points_47 : decode cX7_points 47 = .ok (.aload_n 0, 1) := by decide +kernel
theorem dX7_points_48 : decode cX7_points 48 = .ok (.getfield 111, 3) := by decide +kernel
theorem dX7_points_51 : decode cX7_points 51 = .ok (.if_icmp .le 10, 3) := by decide +kernel
theorem dX7_points_54 : decode cX7_points 54 = .ok (.aload_n 0, 1) := by decide +kernel
theorem dX7_points_55 : decode cX7_points 55 = .ok (.getfield 101, 3) := by decide +kernel
theorem dX7_points_58 : decode cX7_points 58 = .ok (.goto 7, 3) := by decide +kernel
theorem dX7_points_61 : decode cX7_points 61 = .ok (.aload_n 0, 1) := by decide +kernel
theorem dX7_points_62 : decode cX7_points 62 = .ok (.getfield 111, 3) := by decide +kernel
theorem dX7_points_65 : decode cX7_points 65 = .ok (.putfield 111, 3) := by decide +kernel
theorem dX7_points_68 : decode cX7_points 68 = .ok (.return_, 1) := by decide +kernel
theorem dX7_scatters_0 : decode cX7_scatters 0 = .ok (.aload_n 0, 1) := by decide +kernel
theorem dX7_scatters_1 : decode cX7_scatters 1 = .ok (.getfield 78, 3) := by decide +kernel
theorem dX7_scatters_4 : decode cX7_scatters 4 = .ok (.bipush 100, 2) := by decide +kernel
theorem dX7_scatters_6 : decode cX7_scatters 6 = .ok (.if_icmp .lt 43, 3) := by decide +kernel
theorem dX7_scatters_9 : decode cX7_scatters 9 = .ok (.aload_n 0, 1) := by decide +kernel
theorem dX7_scatters_10 : decode cX7_scatters 10 = .ok (.getfield 78, 3) := by decide +kernel
theorem dX7_scatters_13 : decode cX7_scatters 13 = .ok (.sipush 300, 3) := by decide +kernel
theorem dX7_scatters_16 : decode cX7_scatters 16 = .ok (.if_icmp .lt 13, 3) := by decide +kernel
theorem dX7_scatters_19 : decode cX7_scatters 19 = .ok (.aload_n 0, 1) := by decide +kernel
theorem dX7_scatters_20 : decode cX7_scatters 20 = .ok (.getfield 78, 3) := by decide +kernel
theorem dX7_scatters_23 : decode cX7_scatters 23 = .ok (.sipush 380, 3) := by decide +kernel
theorem dX7_scatters_26 : decode cX7_scatters 26 = .ok (.if_icmp .lt 23, 3) := by decide +kernel
theorem dX7_scatters_29 : decode cX7_scatters 29 = .ok (.aload_n 0, 1) := by decide +kernel
theorem dX7_scatters_30 : decode cX7_scatters 30 = .ok (.getfield 78, 3) := by decide +kernel
theorem dX7_scatters_33 : decode cX7_scatters 33 = .ok (.sipush 600, 3) := by decide +kernel
theorem dX7_scatters_36 : decode cX7_scatters 36 = .ok (.if_icmp .lt 17, 3) := by decide +kernel
theorem dX7_scatters_39 : decode cX7_scatters 39 = .ok (.aload_n 0, 1) := by decide +kernel
theorem dX7_scatters_40 : decode cX7_scatters 40 = .ok (.getfield 78, 3) := by decide +kernel
theorem dX7_scatters_43 : decode cX7_scatters 43 = .ok (.sipush 660, 3) := by decide +kernel
theorem dX7_scatters_46 : decode cX7_scatters 46 = .ok (.if_icmp .ge 7, 3) := by decide +kernel
theorem dX7_scatters_49 : decode cX7_scatters 49 = .ok (.iconst 1, 1) := by decide +kernel
theorem dX7_scatters_50 : decode cX7_scatters 50 = .ok (.goto 4, 3) := by decide +kernel
theorem dX7_scatters_53 : decode cX7_scatters 53 = .ok (.iconst 0, 1) := by decide +kernel
theorem dX7_scatters_54 : decode cX7_scatters 54 = .ok (.ireturn, 1) := by decide +kernel
theorem dX7_calm_0 : decode cX7_calm 0 = .ok (.iconst 0, 1) := by decide +kernel
theorem dX7_calm_1 : decode cX7_calm 1 = .ok (.istore_n 1, 1) := by decide +kernel
theorem dX7_calm_2 : decode cX7_calm 2 = .ok (.iload_n 1, 1) := by decide +kernel
theorem dX7_calm_3 : decode cX7_calm 3 = .ok (.iconst 5, 1) := by decide +kernel
theorem dX7_calm_4 : decode cX7_calm 4 = .ok (.if_icmp .ge 16, 3) := by decide +kernel
theorem dX7_calm_7 : decode cX7_calm 7 = .ok (.aload_n 0, 1) := by decide +kernel
theorem dX7_calm_8 : decode cX7_calm 8 = .ok (.getfield 36, 3) := by decide +kernel
theorem dX7_calm_11 : decode cX7_calm 11 = .ok (.iload_n 1, 1) := by decide +kernel
theorem dX7_calm_12 : decode cX7_calm 12 = .ok (.iconst 0, 1) := by decide +kernel
theorem dX7_calm_13 : decode cX7_calm 13 = .ok (.bastore, 1) := by decide +kernel
theorem dX7_calm_14 : decode cX7_calm 14 = .ok (.iinc 1 1, 3) := by decide +kernel
theorem dX7_calm_17 : decode cX7_calm 17 = .ok (.goto (-15), 3) := by decide +kernel
theorem dX7_calm_20 : decode cX7_calm 20 = .ok (.return_, 1) := by decide +kernel
theorem dX7_player_0 : decode cX7_player 0 = .ok (.aload_n 0, 1) := by decide +kernel
theorem dX7_player_1 : decode cX7_player 1 = .ok (.getfield 20, 3) := by decide +kernel
theorem dX7_player_4 : decode cX7_player 4 = .ok (.ifCond .lt 36, 3) := by decide +kernel
theorem dX7_player_7 : decode cX7_player 7 = .ok (.aload_n 0, 1) := by decide +kernel
theorem dX7_player_8 : decode cX7_player 8 = .ok (.iconst 0, 1) := by decide +kernel
theorem dX7_player_9 : decode cX7_player 9 = .ok (.aload_n 0, 1) := by decide +kernel
theorem dX7_player_10 : decode cX7_player 10 = .ok (.getfield 20, 3) := by decide +kernel
theorem dX7_player_13 : decode cX7_player 13 = .ok (.invokevirtual 114, 3) := by decide +kernel
theorem dX7_player_16 : decode cX7_player 16 = .ok (.ifCond .eq 24, 3) := by decide +kernel
theorem dX7_player_19 : decode cX7_player 19 = .ok (.aload_n 0, 1) := by decide +kernel
theorem dX7_player_20 : decode cX7_player 20 = .ok (.getfield 32, 3) := by decide +kernel
theorem dX7_player_23 : decode cX7_player 23 = .ok (.iconst 0, 1) := by decide +kernel
theorem dX7_player_24 : decode cX7_player 24 = .ok (.faload, 1) := by decide +kernel
theorem dX7_player_25 : decode cX7_player 25 = .ok (.fconst 0, 1) := by decide +kernel
theorem dX7_player_26 : decode cX7_player 26 = .ok (.fcmp .l, 1) := by decide +kernel
theorem dX7_player_27 : decode cX7_player 27 = .ok (.ifCond .ne 13, 3) := by decide +kernel
theorem dX7_player_30 : decode cX7_player 30 = .ok (.aload_n 0, 1) := by decide +kernel
theorem dX7_player_31 : decode cX7_player 31 = .ok (.getfield 29, 3) := by decide +kernel
theorem dX7_player_34 : decode cX7_player 34 = .ok (.iconst 0, 1) := by decide +kernel
theorem dX7_player_35 : decode cX7_player 35 = .ok (.aload_n 0, 1) := by decide +kernel
theorem dX7_player_36 : decode cX7_player 36 = .ok (.getfield 20, 3) := by decide +kernel
theorem dX7_player_39 : decode cX7_player 39 = .ok (.iastore, 1) := by decide +kernel
theorem dX7_player_40 : decode cX7_player 40 = .ok (.aload_n 0, 1) := by decide +kernel
theorem dX7_player_41 : decode cX7_player 41 = .ok (.iconst 0, 1) := by decide +kernel
theorem dX7_player_42 : decode cX7_player 42 = .ok (.aload_n 0, 1) := by decide +kernel
theorem dX7_player_43 : decode cX7_player 43 = .ok (.getfield 29, 3) := by decide +kernel
theorem dX7_player_46 : decode cX7_player 46 = .ok (.iconst 0, 1) := by decide +kernel
theorem dX7_player_47 : decode cX7_player 47 = .ok (.iaload, 1) := by decide +kernel
theorem dX7_player_48 : decode cX7_player 48 = .ok (.invokevirtual 114, 3) := by decide +kernel
theorem dX7_player_51 : decode cX7_player 51 = .ok (.ifCond .ne 11, 3) := by decide +kernel
theorem dX7_player_54 : decode cX7_player 54 = .ok (.aload_n 0, 1) := by decide +kernel
theorem dX7_player_55 : decode cX7_player 55 = .ok (.getfield 32, 3) := by decide +kernel
theorem dX7_player_58 : decode cX7_player 58 = .ok (.iconst 0, 1) := by decide +kernel
theorem dX7_player_59 : decode cX7_player 59 = .ok (.fconst 0, 1) := by decide +kernel
theorem dX7_player_60 : decode cX7_player 60 = .ok (.fastore, 1) := by decide +kernel
theorem dX7_player_61 : decode cX7_player 61 = .ok (.return_, 1) := by decide +kernel
theorem dX7_player_62 : decode cX7_player 62 = .ok (.aload_n 0, 1) := by decide +kernel
theorem dX7_player_63 : decode cX7_player 63 = .ok (.getfield 118, 3) := by decide +kernel
theorem dX7_player_66 : decode cX7_player 66 = .ok (.iconst 4, 1) := by decide +kernel
theorem dX7_player_67 : decode cX7_player 67 = .ok (.if_icmp .le 7, 3) := by decide +kernel
theorem dX7_player_70 : decode cX7_player 70 = .ok (.iconst 4, 1) := by decide +kernel
theorem dX7_player_71 : decode cX7_player 71 = .ok (.goto 7, 3) := by decide +kernel
theorem dX7_player_74 : decode cX7_player 74 = .ok (.aload_n 0, 1) := by decide +kernel
theorem dX7_player_75 : decode cX7_player 75 = .ok (.getfield 118, 3) := by decide +kernel
theorem dX7_player_78 : decode cX7_player 78 = .ok (.istore_n 1, 1) := by decide +kernel
theorem dX7_player_79 : decode cX7_player 79 = .ok (.aload_n 0, 1) := by decide +kernel
theorem dX7_player_80 : decode cX7_player 80 = .ok (.getfield 32, 3) := by decide +kernel
theorem dX7_player_83 : decode cX7_player 83 = .ok (.iconst 0, 1) := by decide +kernel
theorem dX7_player_84 : decode cX7_player 84 = .ok (.aload_n 0, 1) := by decide +kernel
theorem dX7_player_85 : decode cX7_player 85 = .ok (.getfield 32, 3) := by decide +kernel
theorem dX7_player_88 : decode cX7_player 88 = .ok (.iconst 0, 1) := by decide +kernel
theorem dX7_player_89 : decode cX7_player 89 = .ok (.faload, 1) := by decide +kernel
theorem dX7_player_90 : decode cX7_player 90 = .ok (.ldc 121, 2) := by decide +kernel
theorem dX7_player_92 : decode cX7_player 92 = .ok (.fconst 1, 1) := by decide +kernel
theorem dX7_player_93 : decode cX7_player 93 = .ok (.ldc 122, 2) := by decide +kernel
theorem dX7_player_95 : decode cX7_player 95 = .ok (.iload_n 1, 1) := by decide +kernel
theorem dX7_player_96 : decode cX7_player 96 = .ok (.i2f, 1) := by decide +kernel
theorem dX7_player_97 : decode cX7_player 97 = .ok (.fmul, 1) := by decide +kernel
theorem dX7_player_98 : decode cX7_player 98 = .ok (.fadd, 1) := by decide +kernel
theorem dX7_player_99 : decode cX7_player 99 = .ok (.fmul, 1) := by decide +kernel
theorem dX7_player_100 : decode cX7_player 100 = .ok (.fadd, 1) := by decide +kernel
theorem dX7_player_101 : decode cX7_player 101 = .ok (.fastore, 1) := by decide +kernel
theorem dX7_player_102 : decode cX7_player 102 = .ok (.aload_n 0, 1) := by decide +kernel
theorem dX7_player_103 : decode cX7_player 103 = .ok (.getfield 32, 3) := by decide +kernel
theorem dX7_player_106 : decode cX7_player 106 = .ok (.iconst 0, 1) := by decide +kernel
theorem dX7_player_107 : decode cX7_player 107 = .ok (.faload, 1) := by decide +kernel
theorem dX7_player_108 : decode cX7_player 108 = .ok (.fconst 1, 1) := by decide +kernel
theorem dX7_player_109 : decode cX7_player 109 = .ok (.fcmp .g, 1) := by decide +kernel
theorem dX7_player_110 : decode cX7_player 110 = .ok (.ifCond .ge 4, 3) := by decide +kernel
theorem dX7_player_113 : decode cX7_player 113 = .ok (.return_, 1) := by decide +kernel
theorem dX7_player_114 : decode cX7_player 114 = .ok (.aload_n 0, 1) := by decide +kernel
theorem dX7_player_115 : decode cX7_player 115 = .ok (.iconst 0, 1) := by decide +kernel
theorem dX7_player_116 : decode cX7_player 116 = .ok (.invokevirtual 123, 3) := by decide +kernel
theorem dX7_player_119 : decode cX7_player 119 = .ok (.aload_n 0, 1) := by decide +kernel
theorem dX7_player_120 : decode cX7_player 120 = .ok (.getfield 32, 3) := by decide +kernel
theorem dX7_player_123 : decode cX7_player 123 = .ok (.iconst 0, 1) := by decide +kernel
theorem dX7_player_124 : decode cX7_player 124 = .ok (.aload_n 0, 1) := by decide +kernel
theorem dX7_player_125 : decode cX7_player 125 = .ok (.getfield 32, 3) := by decide +kernel
theorem dX7_player_128 : decode cX7_player 128 = .ok (.iconst 0, 1) := by decide +kernel
theorem dX7_player_129 : decode cX7_player 129 = .ok (.faload, 1) := by decide +kernel
theorem dX7_player_130 : decode cX7_player 130 = .ok (.fconst 1, 1) := by decide +kernel
theorem dX7_player_131 : decode cX7_player 131 = .ok (.fsub, 1) := by decide +kernel
theorem dX7_player_132 : decode cX7_player 132 = .ok (.fastore, 1) := by decide +kernel
theorem dX7_player_133 : decode cX7_player 133 = .ok (.aload_n 0, 1) := by decide +kernel
theorem dX7_player_134 : decode cX7_player 134 = .ok (.iconst 0, 1) := by decide +kernel
theorem dX7_player_135 : decode cX7_player 135 = .ok (.aload_n 0, 1) := by decide +kernel
theorem dX7_player_136 : decode cX7_player 136 = .ok (.getfield 29, 3) := by decide +kernel
theorem dX7_player_139 : decode cX7_player 139 = .ok (.iconst 0, 1) := by decide +kernel
theorem dX7_player_140 : decode cX7_player 140 = .ok (.iaload, 1) := by decide +kernel
theorem dX7_player_141 : decode cX7_player 141 = .ok (.invokevirtual 114, 3) := by decide +kernel
theorem dX7_player_144 : decode cX7_player 144 = .ok (.ifCond .eq 22, 3) := by decide +kernel
theorem dX7_player_147 : decode cX7_player 147 = .ok (.aload_n 0, 1) := by decide +kernel
theorem dX7_player_148 : decode cX7_player 148 = .ok (.getfield 20, 3) := by decide +kernel
theorem dX7_player_151 : decode cX7_player 151 = .ok (.ifCond .lt 22, 3) := by decide +kernel
theorem dX7_player_154 : decode cX7_player 154 = .ok (.aload_n 0, 1) := by decide +kernel
theorem dX7_player_155 : decode cX7_player 155 = .ok (.iconst 0, 1) := by decide +kernel
theorem dX7_player_156 : decode cX7_player 156 = .ok (.aload_n 0, 1) := by decide +kernel
theorem dX7_player_157 : decode cX7_player 157 = .ok (.getfield 20, 3) := by decide +kernel
theorem dX7_player_160 : decode cX7_player 160 = .ok (.invokevirtual 114, 3) := by decide +kernel
theorem dX7_player_163 : decode cX7_player 163 = .ok (.ifCond .eq 10, 3) := by decide +kernel
theorem dX7_player_166 : decode cX7_player 166 = .ok (.aload_n 0, 1) := by decide +kernel
theorem dX7_player_167 : decode cX7_player 167 = .ok (.getfield 32, 3) := by decide +kernel
theorem dX7_player_170 : decode cX7_player 170 = .ok (.iconst 0, 1) := by decide +kernel
theorem dX7_player_171 : decode cX7_player 171 = .ok (.fconst 0, 1) := by decide +kernel
theorem dX7_player_172 : decode cX7_player 172 = .ok (.fastore, 1) := by decide +kernel
theorem dX7_player_173 : decode cX7_player 173 = .ok (.bipush 13, 2) := by decide +kernel
theorem dX7_player_175 : decode cX7_player 175 = .ok (.aload_n 0, 1) := by decide +kernel
theorem dX7_player_176 : decode cX7_player 176 = .ok (.getfield 26, 3) := by decide +kernel
theorem dX7_player_179 : decode cX7_player 179 = .ok (.iconst 0, 1) := by decide +kernel
theorem dX7_player_180 : decode cX7_player 180 = .ok (.iaload, 1) := by decide +kernel
theorem dX7_player_181 : decode cX7_player 181 = .ok (.imul, 1) := by decide +kernel
theorem dX7_player_182 : decode cX7_player 182 = .ok (.aload_n 0, 1) := by decide +kernel
theorem dX7_player_183 : decode cX7_player 183 = .ok (.getfield 23, 3) := by decide +kernel
theorem dX7_player_186 : decode cX7_player 186 = .ok (.iconst 0, 1) := by decide +kernel
theorem dX7_player_187 : decode cX7_player 187 = .ok (.iaload, 1) := by decide +kernel
theorem dX7_player_188 : decode cX7_player 188 = .ok (.iadd, 1) := by decide +kernel
theorem dX7_player_189 : decode cX7_player 189 = .ok (.istore_n 2, 1) := by decide +kernel
theorem dX7_player_190 : decode cX7_player 190 = .ok (.aload_n 0, 1) := by decide +kernel
theorem dX7_player_191 : decode cX7_player 191 = .ok (.getfield 13, 3) := by decide +kernel
theorem dX7_player_194 : decode cX7_player 194 = .ok (.iload_n 2, 1) := by decide +kernel
theorem dX7_player_195 : decode cX7_player 195 = .ok (.iaload, 1) := by decide +kernel
theorem dX7_player_196 : decode cX7_player 196 = .ok (.istore_n 3, 1) := by decide +kernel
theorem dX7_player_197 : decode cX7_player 197 = .ok (.iload_n 3, 1) := by decide +kernel
theorem dX7_player_198 : decode cX7_player 198 = .ok (.iconst 2, 1) := by decide +kernel
theorem dX7_player_199 : decode cX7_player 199 = .ok (.if_icmp .eq 8, 3) := by decide +kernel
theorem dX7_player_202 : decode cX7_player 202 = .ok (.iload_n 3, 1) := by decide +kernel
theorem dX7_player_203 : decode cX7_player 203 = .ok (.iconst 3, 1) := by decide +kernel
theorem dX7_player_204 : decode cX7_player 204 = .ok (.if_icmp .ne 56, 3) := by decide +kernel
theorem dX7_player_207 : decode cX7_player 207 = .ok (.aload_n 0, 1) := by decide +kernel
theorem dX7_player_208 : decode cX7_player 208 = .ok (.getfield 13, 3) := by decide +kernel
theorem dX7_player_211 : decode cX7_player 211 = .ok (.iload_n 2, 1) := by decide +kernel
theorem dX7_player_212 : decode cX7_player 212 = .ok (.iconst 0, 1) := by decide +kernel
theorem dX7_player_213 : decode cX7_player 213 = .ok (.iastore, 1) := by decide +kernel
theorem dX7_player_214 : decode cX7_player 214 = .ok (.aload_n 0, 1) := by decide +kernel
theorem dX7_player_215 : decode cX7_player 215 = .ok (.aload_n 0, 1) := by decide +kernel
theorem dX7_player_216 : decode cX7_player 216 = .ok (.getfield 127, 3) := by decide +kernel
theorem dX7_player_219 : decode cX7_player 219 = .ok (.ifCond .ne 8, 3) := by decide +kernel
theorem dX7_player_222 : decode cX7_player 222 = .ok (.iload_n 3, 1) := by decide +kernel
theorem dX7_player_223 : decode cX7_player 223 = .ok (.iconst 2, 1) := by decide +kernel
theorem dX7_player_224 : decode cX7_player 224 = .ok (.if_icmp .ne 7, 3) := by decide +kernel
theorem dX7_player_227 : decode cX7_player 227 = .ok (.iconst 1, 1) := by decide +kernel
theorem dX7_player_228 : decode cX7_player 228 = .ok (.goto 4, 3) := by decide +kernel
theorem dX7_player_231 : decode cX7_player 231 = .ok (.iconst 0, 1) := by decide +kernel
theorem dX7_player_232 : decode cX7_player 232 = .ok (.putfield 127, 3) := by decide +kernel
theorem dX7_player_235 : decode cX7_player 235 = .ok (.aload_n 0, 1) := by decide +kernel
theorem dX7_player_236 : decode cX7_player 236 = .ok (.iload_n 3, 1) := by decide +kernel
theorem dX7_player_237 : decode cX7_player 237 = .ok (.iconst 2, 1) := by decide +kernel
theorem dX7_player_238 : decode cX7_player 238 = .ok (.if_icmp .ne 8, 3) := by decide +kernel
theorem dX7_player_241 : decode cX7_player 241 = .ok (.bipush 10, 2) := by decide +kernel
theorem dX7_player_243 : decode cX7_player 243 = .ok (.goto 5, 3) := by decide +kernel
theorem dX7_player_246 : decode cX7_player 246 = .ok (.bipush 50, 2) := by decide +kernel
theorem dX7_player_248 : decode cX7_player 248 = .ok (.invokevirtual 130, 3) := by decide +kernel
theorem dX7_player_251 : decode cX7_player 251 = .ok (.iload_n 3, 1) := by decide +kernel
theorem dX7_player_252 : decode cX7_player 252 = .ok (.iconst 3, 1) := by decide +kernel
theorem dX7_player_253 : decode cX7_player 253 = .ok (.if_icmp .ne 7, 3) := by decide +kernel
theorem dX7_player_256 : decode cX7_player 256 = .ok (.aload_n 0, 1) := by decide +kernel
theorem dX7_player_257 : decode cX7_player 257 = .ok (.invokevirtual 133, 3) := by decide +kernel
theorem dX7_player_260 : decode cX7_player 260 = .ok (.return_, 1) := by decide +kernel
theorem dX7_scare_0 : decode cX7_scare 0 = .ok (.aload_n 0, 1) := by decide +kernel
theorem dX7_scare_1 : decode cX7_scare 1 = .ok (.iconst 1, 1) := by decide +kernel
theorem dX7_scare_2 : decode cX7_scare 2 = .ok (.putfield 136, 3) := by decide +kernel
theorem dX7_scare_5 : decode cX7_scare 5 = .ok (.aload_n 0, 1) := by decide +kernel
theorem dX7_scare_6 : decode cX7_scare 6 = .ok (.bipush 100, 2) := by decide +kernel
theorem dX7_scare_8 : decode cX7_scare 8 = .ok (.bipush 15, 2) := by decide +kernel
theorem dX7_scare_10 : decode cX7_scare 10 = .ok (.aload_n 0, 1) := by decide +kernel
theorem dX7_scare_11 : decode cX7_scare 11 = .ok (.getfield 118, 3) := by decide +kernel
theorem dX7_scare_14 : decode cX7_scare 14 = .ok (.imul, 1) := by decide +kernel
theorem dX7_scare_15 : decode cX7_scare 15 = .ok (.isub, 1) := by decide +kernel
theorem dX7_scare_16 : decode cX7_scare 16 = .ok (.bipush 10, 2) := by decide +kernel
theorem dX7_scare_18 : decode cX7_scare 18 = .ok (.if_icmp .ge 8, 3) := by decide +kernel
theorem dX7_scare_21 : decode cX7_scare 21 = .ok (.bipush 10, 2) := by decide +kernel
theorem dX7_scare_23 : decode cX7_scare 23 = .ok (.goto 13, 3) := by decide +kernel
theorem dX7_scare_26 : decode cX7_scare 26 = .ok (.bipush 100, 2) := by decide +kernel
theorem dX7_scare_28 : decode cX7_scare 28 = .ok (.bipush 15, 2) := by decide +kernel
theorem dX7_scare_30 : decode cX7_scare 30 = .ok (.aload_n 0, 1) := by decide +kernel
theorem dX7_scare_31 : decode cX7_scare 31 = .ok (.getfield 118, 3) := by decide +kernel
theorem dX7_scare_34 : decode cX7_scare 34 = .ok (.imul, 1) := by decide +kernel
theorem dX7_scare_35 : decode cX7_scare 35 = .ok (.isub, 1) := by decide +kernel
theorem dX7_scare_36 : decode cX7_scare 36 = .ok (.putfield 81, 3) := by decide +kernel
theorem dX7_scare_39 : decode cX7_scare 39 = .ok (.aload_n 0, 1) := by decide +kernel
theorem dX7_scare_40 : decode cX7_scare 40 = .ok (.iconst 0, 1) := by decide +kernel
theorem dX7_scare_41 : decode cX7_scare 41 = .ok (.putfield 139, 3) := by decide +kernel
theorem dX7_scare_44 : decode cX7_scare 44 = .ok (.iconst 1, 1) := by decide +kernel
theorem dX7_scare_45 : decode cX7_scare 45 = .ok (.istore_n 1, 1) := by decide +kernel
theorem dX7_scare_46 : decode cX7_scare 46 = .ok (.iload_n 1, 1) := by decide +kernel
theorem dX7_scare_47 : decode cX7_scare 47 = .ok (.iconst 5, 1) := by decide +kernel
theorem dX7_scare_48 : decode cX7_scare 48 = .ok (.if_icmp .ge 92, 3) := by decide +kernel
theorem dX7_scare_51 : decode cX7_scare 51 = .ok (.aload_n 0, 1) := by decide +kernel
theorem dX7_scare_52 : decode cX7_scare 52 = .ok (.getfield 43, 3) := by decide +kernel
theorem dX7_scare_55 : decode cX7_scare 55 = .ok (.iload_n 1, 1) := by decide +kernel
theorem dX7_scare_56 : decode cX7_scare 56 = .ok (.baload, 1) := by decide +kernel
theorem dX7_scare_57 : decode cX7_scare 57 = .ok (.ifCond .ne 77, 3) := by decide +kernel
theorem dX7_scare_60 : decode cX7_scare 60 = .ok (.aload_n 0, 1) := by decide +kernel
theorem dX7_scare_61 : decode cX7_scare 61 = .ok (.getfield 36, 3) := by decide +kernel
theorem dX7_scare_64 : decode cX7_scare 64 = .ok (.iload_n 1, 1) := by decide +kernel
theorem dX7_scare_65 : decode cX7_scare 65 = .ok (.iconst 1, 1) := by decide +kernel
theorem dX7_scare_66 : decode cX7_scare 66 = .ok (.bastore, 1) := by decide +kernel
theorem dX7_scare_67 : decode cX7_scare 67 = .ok (.aload_n 0, 1) := by decide +kernel
theorem dX7_scare_68 : decode cX7_scare 68 = .ok (.getfield 29, 3) := by decide +kernel
theorem dX7_scare_71 : decode cX7_scare 71 = .ok (.iload_n 1, 1) := by decide +kernel
theorem dX7_scare_72 : decode cX7_scare 72 = .ok (.iaload, 1) := by decide +kernel
theorem dX7_scare_73 : decode cX7_scare 73 = .ok (.iconst 2, 1) := by decide +kernel
theorem dX7_scare_74 : decode cX7_scare 74 = .ok (.iadd, 1) := by decide +kernel
theorem dX7_scare_75 : decode cX7_scare 75 = .ok (.iconst 3, 1) := by decide +kernel
theorem dX7_scare_76 : decode cX7_scare 76 = .ok (.iand, 1) := by decide +kernel
theorem dX7_scare_77 : decode cX7_scare 77 = .ok (.istore_n 2, 1) := by decide +kernel
theorem dX7_scare_78 : decode cX7_scare 78 = .ok (.aload_n 0, 1) := by decide +kernel
theorem dX7_scare_79 : decode cX7_scare 79 = .ok (.getfield 32, 3) := by decide +kernel
theorem dX7_scare_82 : decode cX7_scare 82 = .ok (.iload_n 1, 1) := by decide +kernel
theorem dX7_scare_83 : decode cX7_scare 83 = .ok (.faload, 1) := by decide +kernel
theorem dX7_scare_84 : decode cX7_scare 84 = .ok (.fconst 0, 1) := by decide +kernel
theorem dX7_scare_85 : decode cX7_scare 85 = .ok (.fcmp .l, 1) := by decide +kernel
theorem dX7_scare_86 : decode cX7_scare 86 = .ok (.ifCond .eq 32, 3) := by decide +kernel
theorem dX7_scare_89 : decode cX7_scare 89 = .ok (.aload_n 0, 1) := by decide +kernel
theorem dX7_scare_90 : decode cX7_scare 90 = .ok (.iload_n 1, 1) := by decide +kernel
theorem dX7_scare_91 : decode cX7_scare 91 = .ok (.invokevirtual 123, 3) := by decide +kernel
theorem dX7_scare_94 : decode cX7_scare 94 = .ok (.aload_n 0, 1) := by decide +kernel
theorem dX7_scare_95 : decode cX7_scare 95 = .ok (.getfield 32, 3) := by decide +kernel
theorem dX7_scare_98 : decode cX7_scare 98 = .ok (.iload_n 1, 1) := by decide +kernel
theorem dX7_scare_99 : decode cX7_scare 99 = .ok (.fconst 1, 1) := by decide +kernel
theorem dX7_scare_100 : decode cX7_scare 100 = .ok (.aload_n 0, 1) := by decide +kernel
theorem dX7_scare_101 : decode cX7_scare 101 = .ok (.getfield 32, 3) := by decide +kernel
theorem dX7_scare_104 : decode cX7_scare 104 = .ok (.iload_n 1, 1) := by decide +kernel
theorem dX7_scare_105 : decode cX7_scare 105 = .ok (.faload, 1) := by decide +kernel
theorem dX7_scare_106 : decode cX7_scare 106 = .ok (.fsub, 1) := by decide +kernel
theorem dX7_scare_107 : decode cX7_scare 107 = .ok (.fastore, 1) := by decide +kernel
theorem dX7_scare_108 : decode cX7_scare 108 = .ok (.aload_n 0, 1) := by decide +kernel
theorem dX7_scare_109 : decode cX7_scare 109 = .ok (.getfield 29, 3) := by decide +kernel
theorem dX7_scare_112 : decode cX7_scare 112 = .ok (.iload_n 1, 1) := by decide +kernel
theorem dX7_scare_113 : decode cX7_scare 113 = .ok (.iload_n 2, 1) := by decide +kernel
theorem dX7_scare_114 : decode cX7_scare 114 = .ok (.iastore, 1) := by decide +kernel
theorem dX7_scare_115 : decode cX7_scare 115 = .ok (.goto 19, 3) := by decide +kernel
theorem dX7_scare_118 : decode cX7_scare 118 = .ok (.aload_n 0, 1) := by decide +kernel
theorem dX7_scare_119 : decode cX7_scare 119 = .ok (.iload_n 1, 1) := by decide +kernel
theorem dX7_scare_120 : decode cX7_scare 120 = .ok (.iload_n 2, 1) := by decide +kernel
theorem dX7_scare_121 : decode cX7_scare 121 = .ok (.invokevirtual 114, 3) := by decide +kernel
theorem dX7_scare_124 : decode cX7_scare 124 = .ok (.ifCond .eq 10, 3) := by decide +kernel
theorem dX7_scare_127 : decode cX7_scare 127 = .ok (.aload_n 0, 1) := by decide +kernel
theorem dX7_scare_128 : decode cX7_scare 128 = .ok (.getfield 29, 3) := by decide +kernel
theorem dX7_scare_131 : decode cX7_scare 131 = .ok (.iload_n 1, 1) := by decide +kernel
theorem dX7_scare_132 : decode cX7_scare 132 = .ok (.iload_n 2, 1) := by decide +kernel
theorem dX7_scare_133 : decode cX7_scare 133 = .ok (.iastore, 1) := by decide +kernel
theorem dX7_scare_134 : decode cX7_scare 134 = .ok (.iinc 1 1, 3) := by decide +kernel
theorem dX7_scare_137 : decode cX7_scare 137 = .ok (.goto (-91), 3) := by decide +kernel
theorem dX7_scare_140 : decode cX7_scare 140 = .ok (.return_, 1) := by decide +kernel
theorem dX7_hunter_0 : decode cX7_hunter 0 = .ok (.aload_n 0, 1) := by decide +kernel
theorem dX7_hunter_1 : decode cX7_hunter 1 = .ok (.getfield 40, 3) := by decide +kernel
theorem dX7_hunter_4 : decode cX7_hunter 4 = .ok (.iload_n 1, 1) := by decide +kernel
theorem dX7_hunter_5 : decode cX7_hunter 5 = .ok (.iaload, 1) := by decide +kernel
theorem dX7_hunter_6 : decode cX7_hunter 6 = .ok (.ifCond .le 28, 3) := by decide +kernel
theorem dX7_hunter_9 : decode cX7_hunter 9 = .ok (.aload_n 0, 1) := by decide +kernel
theorem dX7_hunter_10 : decode cX7_hunter 10 = .ok (.getfield 40, 3) := by decide +kernel
theorem dX7_hunter_13 : decode cX7_hunter 13 = .ok (.iload_n 1, 1) := by decide +kernel
theorem dX7_hunter_14 : decode cX7_hunter 14 = .ok (.dup2, 1) := by decide +kernel
theorem dX7_hunter_15 : decode cX7_hunter 15 = .ok (.iaload, 1) := by decide +kernel
theorem dX7_hunter_16 : decode cX7_hunter 16 = .ok (.iconst 1, 1) := by decide +kernel
theorem dX7_hunter_17 : decode cX7_hunter 17 = .ok (.isub, 1) := by decide +kernel
theorem dX7_hunter_18 : decode cX7_hunter 18 = .ok (.iastore, 1) := by decide +kernel
theorem dX7_hunter_19 : decode cX7_hunter 19 = .ok (.aload_n 0, 1) := by decide +kernel
theorem dX7_hunter_20 : decode cX7_hunter 20 = .ok (.getfield 40, 3) := by decide +kernel
theorem dX7_hunter_23 : decode cX7_hunter 23 = .ok (.iload_n 1, 1) := by decide +kernel
theorem dX7_hunter_24 : decode cX7_hunter 24 = .ok (.iaload, 1) := by decide +kernel
theorem dX7_hunter_25 : decode cX7_hunter 25 = .ok (.ifCond .ne 8, 3) := by decide +kernel
theorem dX7_hunter_28 : decode cX7_hunter 28 = .ok (.aload_n 0, 1) := by decide +kernel
theorem dX7_hunter_29 : decode cX7_hunter 29 = .ok (.iload_n 1, 1) := by decide +kernel
theorem dX7_hunter_30 : decode cX7_hunter 30 = .ok (.invokevirtual 142, 3) := by decide +kernel
theorem dX7_hunter_33 : decode cX7_hunter 33 = .ok (.return_, 1) := by decide +kernel
theorem dX7_hunter_34 : decode cX7_hunter 34 = .ok (.aload_n 0, 1) := by decide +kernel
theorem dX7_hunter_35 : decode cX7_hunter 35 = .ok (.getfield 118, 3) := by decide +kernel
theorem dX7_hunter_38 : decode cX7_hunter 38 = .ok (.iconst 5, 1) := by decide +kernel
theorem dX7_hunter_39 : decode cX7_hunter 39 = .ok (.if_icmp .le 7, 3) := by decide +kernel
theorem dX7_hunter_42 : decode cX7_hunter 42 = .ok (.iconst 5, 1) := by decide +kernel
theorem dX7_hunter_43 : decode cX7_hunter 43 = .ok (.goto 7, 3) := by decide +kernel
theorem dX7_hunter_46 : decode cX7_hunter 46 = .ok (.aload_n 0, 1) := by decide +kernel
theorem dX7_hunter_47 : decode cX7_hunter 47 = .ok (.getfield 118, 3) := by decide +kernel
theorem dX7_hunter_50 : decode cX7_hunter 50 = .ok (.istore_n 2, 1) := by decide +kernel
theorem dX7_hunter_51 : decode cX7_hunter 51 = .ok (.ldc 145, 2) := by decide +kernel
theorem dX7_hunter_53 : decode cX7_hunter 53 = .ok (.fconst 1, 1) := by decide +kernel
theorem dX7_hunter_54 : decode cX7_hunter 54 = .ok (.ldc 146, 2) := by decide +kernel
theorem dX7_hunter_56 : decode cX7_hunter 56 = .ok (.iload_n 2, 1) := by decide +kernel
theorem dX7_hunter_57 : decode cX7_hunter 57 = .ok (.i2f, 1) := by decide +kernel
theorem dX7_hunter_58 : decode cX7_hunter 58 = .ok (.fmul, 1) := by decide +kernel
theorem dX7_hunter_59 : decode cX7_hunter 59 = .ok (.fadd, 1) := by decide +kernel
theorem dX7_hunter_60 : decode cX7_hunter 60 = .ok (.fmul, 1) := by decide +kernel
theorem dX7_hunter_61 : decode cX7_hunter 61 = .ok (.fstore_n 3, 1) := by decide +kernel
theorem dX7_hunter_62 : decode cX7_hunter 62 = .ok (.aload_n 0, 1) := by decide +kernel
theorem dX7_hunter_63 : decode cX7_hunter 63 = .ok (.getfield 32, 3) := by decide +kernel
theorem dX7_hunter_66 : decode cX7_hunter 66 = .ok (.iload_n 1, 1) := by decide +kernel
theorem dX7_hunter_67 : decode cX7_hunter 67 = .ok (.aload_n 0, 1) := by decide +kernel
theorem dX7_hunter_68 : decode cX7_hunter 68 = .ok (.getfield 32, 3) := by decide +kernel
theorem dX7_hunter_71 : decode cX7_hunter 71 = .ok (.iload_n 1, 1) := by decide +kernel
theorem dX7_hunter_72 : decode cX7_hunter 72 = .ok (.faload, 1) := by decide +kernel
theorem dX7_hunter_73 : decode cX7_hunter 73 = .ok (.aload_n 0, 1) := by decide +kernel
theorem dX7_hunter_74 : decode cX7_hunter 74 = .ok (.getfield 36, 3) := by decide +kernel
theorem dX7_hunter_77 : decode cX7_hunter 77 = .ok (.iload_n 1, 1) := by decide +kernel
theorem dX7_hunter_78 : decode cX7_hunter 78 = .ok (.baload, 1) := by decide +kernel
theorem dX7_hunter_79 : decode cX7_hunter 79 = .ok (.ifCond .eq 9, 3) := by decide +kernel
theorem dX7_hunter_82 : decode cX7_hunter 82 = .ok (.fload_n 3, 1) := by decide +kernel
theorem dX7_hunter_83 : decode cX7_hunter 83 = .ok (.fconst 2, 1) := by decide +kernel
theorem dX7_hunter_84 : decode cX7_hunter 84 = .ok (.fdiv, 1) := by decide +kernel
theorem dX7_hunter_85 : decode cX7_hunter 85 = .ok (.goto 4, 3) := by decide +kernel
theorem dX7_hunter_88 : decode cX7_hunter 88 = .ok (.fload_n 3, 1) := by decide +kernel
theorem dX7_hunter_89 : decode cX7_hunter 89 = .ok (.fadd, 1) := by decide +kernel
theorem dX7_hunter_90 : decode cX7_hunter 90 = .ok (.fastore, 1) := by decide +kernel
theorem dX7_hunter_91 : decode cX7_hunter 91 = .ok (.aload_n 0, 1) := by decide +kernel
theorem dX7_hunter_92 : decode cX7_hunter 92 = .ok (.getfield 32, 3) := by decide +kernel
theorem dX7_hunter_95 : decode cX7_hunter 95 = .ok (.iload_n 1, 1) := by decide +kernel
theorem dX7_hunter_96 : decode cX7_hunter 96 = .ok (.faload, 1) := by decide +kernel
theorem dX7_hunter_97 : decode cX7_hunter 97 = .ok (.fconst 1, 1) := by decide +kernel
theorem dX7_hunter_98 : decode cX7_hunter 98 = .ok (.fcmp .l, 1) := by decide +kernel
theorem dX7_hunter_99 : decode cX7_hunter 99 = .ok (.ifCond .lt 55, 3) := by decide +kernel
theorem dX7_hunter_102 : decode cX7_hunter 102 = .ok (.aload_n 0, 1) := by decide +kernel
theorem dX7_hunter_103 : decode cX7_hunter 103 = .ok (.iload_n 1, 1) := by decide +kernel
theorem dX7_hunter_104 : decode cX7_hunter 104 = .ok (.invokevirtual 123, 3) := by decide +kernel
theorem dX7_hunter_107 : decode cX7_hunter 107 = .ok (.aload_n 0, 1) := by decide +kernel
theorem dX7_hunter_108 : decode cX7_hunter 108 = .ok (.getfield 32, 3) := by decide +kernel
theorem dX7_hunter_111 : decode cX7_hunter 111 = .ok (.iload_n 1, 1) := by decide +kernel
theorem dX7_hunter_112 : decode cX7_hunter 112 = .ok (.aload_n 0, 1) := by decide +kernel
theorem dX7_hunter_113 : decode cX7_hunter 113 = .ok (.getfield 32, 3) := by decide +kernel
theorem dX7_hunter_116 : decode cX7_hunter 116 = .ok (.iload_n 1, 1) := by decide +kernel
theorem dX7_hunter_117 : decode cX7_hunter 117 = .ok (.faload, 1) := by decide +kernel
theorem dX7_hunter_118 : decode cX7_hunter 118 = .ok (.fconst 1, 1) := by decide +kernel
theorem dX7_hunter_119 : decode cX7_hunter 119 = .ok (.fsub, 1) := by decide +kernel
theorem dX7_hunter_120 : decode cX7_hunter 120 = .ok (.fastore, 1) := by decide +kernel
theorem dX7_hunter_121 : decode cX7_hunter 121 = .ok (.aload_n 0, 1) := by decide +kernel
theorem dX7_hunter_122 : decode cX7_hunter 122 = .ok (.getfield 23, 3) := by decide +kernel
theorem dX7_hunter_125 : decode cX7_hunter 125 = .ok (.iload_n 1, 1) := by decide +kernel
theorem dX7_hunter_126 : decode cX7_hunter 126 = .ok (.iaload, 1) := by decide +kernel
theorem dX7_hunter_127 : decode cX7_hunter 127 = .ok (.bipush 6, 2) := by decide +kernel
theorem dX7_hunter_129 : decode cX7_hunter 129 = .ok (.if_icmp .ne 20, 3) := by decide +kernel
theorem dX7_hunter_132 : decode cX7_hunter 132 = .ok (.aload_n 0, 1) := by decide +kernel
theorem dX7_hunter_133 : decode cX7_hunter 133 = .ok (.getfield 26, 3) := by decide +kernel
theorem dX7_hunter_136 : decode cX7_hunter 136 = .ok (.iload_n 1, 1) := by decide +kernel
theorem dX7_hunter_137 : decode cX7_hunter 137 = .ok (.iaload, 1) := by decide +kernel
theorem dX7_hunter_138 : decode cX7_hunter 138 = .ok (.iconst 2, 1) := by decide +kernel
theorem dX7_hunter_139 : decode cX7_hunter 139 = .ok (.if_icmp .ne 10, 3) := by decide +kernel
theorem dX7_hunter_142 : decode cX7_hunter 142 = .ok (.aload_n 0, 1) := by decide +kernel
theorem dX7_hunter_143 : decode cX7_hunter 143 = .ok (.getfield 43, 3) := by decide +kernel
theorem dX7_hunter_146 : decode cX7_hunter 146 = .ok (.iload_n 1, 1) := by decide +kernel
theorem dX7_hunter_147 : decode cX7_hunter 147 = .ok (.iconst 0, 1) := by decide +kernel
theorem dX7_hunter_148 : decode cX7_hunter 148 = .ok (.bastore, 1) := by decide +kernel
theorem dX7_hunter_149 : decode cX7_hunter 149 = .ok (.aload_n 0, 1) := by decide +kernel
theorem dX7_hunter_150 : decode cX7_hunter 150 = .ok (.iload_n 1, 1) := by decide +kernel
theorem dX7_hunter_151 : decode cX7_hunter 151 = .ok (.invokevirtual 142, 3) := by decide +kernel
theorem dX7_hunter_154 : decode cX7_hunter 154 = .ok (.return_, 1) := by decide +kernel
