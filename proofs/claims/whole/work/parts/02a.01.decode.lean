theorem dX0_init_0 : decode cX0_init 0 = .ok (.aload_n 0, 1) := by decide +kernel
theorem dX0_init_1 : decode cX0_init 1 = .ok (.invokespecial 1, 3) := by decide +kernel
theorem dX0_init_4 : decode cX0_init 4 = .ok (.return_, 1) := by decide +kernel
theorem dX0_place_0 : decode cX0_place 0 = .ok (.aload_n 0, 1) := by decide +kernel
theorem dX0_place_1 : decode cX0_place 1 = .ok (.iload_n 1, 1) := by decide +kernel
theorem dX0_place_2 : decode cX0_place 2 = .ok (.putfield 7, 3) := by decide +kernel
theorem dX0_place_5 : decode cX0_place 5 = .ok (.aload_n 0, 1) := by decide +kernel
theorem dX0_place_6 : decode cX0_place 6 = .ok (.iload_n 2, 1) := by decide +kernel
theorem dX0_place_7 : decode cX0_place 7 = .ok (.putfield 13, 3) := by decide +kernel
theorem dX0_place_10 : decode cX0_place 10 = .ok (.aload_n 0, 1) := by decide +kernel
theorem dX0_place_11 : decode cX0_place 11 = .ok (.iload_n 3, 1) := by decide +kernel
theorem dX0_place_12 : decode cX0_place 12 = .ok (.putfield 16, 3) := by decide +kernel
theorem dX0_place_15 : decode cX0_place 15 = .ok (.aload_n 0, 1) := by decide +kernel
theorem dX0_place_16 : decode cX0_place 16 = .ok (.fconst 0, 1) := by decide +kernel
theorem dX0_place_17 : decode cX0_place 17 = .ok (.putfield 19, 3) := by decide +kernel
theorem dX0_place_20 : decode cX0_place 20 = .ok (.aload_n 0, 1) := by decide +kernel
theorem dX0_place_21 : decode cX0_place 21 = .ok (.iconst 0, 1) := by decide +kernel
theorem dX0_place_22 : decode cX0_place 22 = .ok (.putfield 23, 3) := by decide +kernel
theorem dX0_place_25 : decode cX0_place 25 = .ok (.aload_n 0, 1) := by decide +kernel
theorem dX0_place_26 : decode cX0_place 26 = .ok (.iload 4, 2) := by decide +kernel
theorem dX0_place_28 : decode cX0_place 28 = .ok (.ifCond .le 7, 3) := by decide +kernel
theorem dX0_place_31 : decode cX0_place 31 = .ok (.iconst 1, 1) := by decide +kernel
theorem dX0_place_32 : decode cX0_place 32 = .ok (.goto 4, 3) := by decide +kernel
theorem dX0_place_35 : decode cX0_place 35 = .ok (.iconst 0, 1) := by decide +kernel
theorem dX0_place_36 : decode cX0_place 36 = .ok (.putfield 27, 3) := by decide +kernel
theorem dX0_place_39 : decode cX0_place 39 = .ok (.aload_n 0, 1) := by decide +kernel
theorem dX0_place_40 : decode cX0_place 40 = .ok (.iload 4, 2) := by decide +kernel
theorem dX0_place_42 : decode cX0_place 42 = .ok (.putfield 30, 3) := by decide +kernel
theorem dX0_place_45 : decode cX0_place 45 = .ok (.return_, 1) := by decide +kernel
theorem dX0_rememberCell_0 : decode cX0_rememberCell 0 = .ok (.aload_n 0, 1) := by decide +kernel
theorem dX0_rememberCell_1 : decode cX0_rememberCell 1 = .ok (.aload_n 0, 1) := by decide +kernel
theorem dX0_rememberCell_2 : decode cX0_rememberCell 2 = .ok (.getfield 7, 3) := by decide +kernel
theorem dX0_rememberCell_5 : decode cX0_rememberCell 5 = .ok (.putfield 33, 3) := by decide +kernel
theorem dX0_rememberCell_8 : decode cX0_rememberCell 8 = .ok (.aload_n 0, 1) := by decide +kernel
theorem dX0_rememberCell_9 : decode cX0_rememberCell 9 = .ok (.aload_n 0, 1) := by decide +kernel
theorem dX0_rememberCell_10 : decode cX0_rememberCell 10 = .ok (.getfield 13, 3) := by decide +kernel
theorem dX0_rememberCell_13 : decode cX0_rememberCell 13 = .ok (.putfield 36, 3) := by decide +kernel
theorem dX0_rememberCell_16 : decode cX0_rememberCell 16 = .ok (.return_, 1) := by decide +kernel
theorem dX0_enterNextCell_0 : decode cX0_enterNextCell 0 = .ok (.aload_n 0, 1) := by decide +kernel
theorem dX0_enterNextCell_1 : decode cX0_enterNextCell 1 = .ok (.aload_n 0, 1) := by decide +kernel
theorem dX0_enterNextCell_2 : decode cX0_enterNextCell 2 = .ok (.getfield 7, 3) := by decide +kernel
theorem dX0_enterNextCell_5 : decode cX0_enterNextCell 5 = .ok (.aload_n 0, 1) := by decide +kernel
theorem dX0_enterNextCell_6 : decode cX0_enterNextCell 6 = .ok (.getfield 16, 3) := by decide +kernel
theorem dX0_enterNextCell_9 : decode cX0_enterNextCell 9 = .ok (.invokestatic 39, 3) := by decide +kernel
theorem dX0_enterNextCell_12 : decode cX0_enterNextCell 12 = .ok (.putfield 7, 3) := by decide +kernel
theorem dX0_enterNextCell_15 : decode cX0_enterNextCell 15 = .ok (.aload_n 0, 1) := by decide +kernel
theorem dX0_enterNextCell_16 : decode cX0_enterNextCell 16 = .ok (.aload_n 0, 1) := by decide +kernel
theorem dX0_enterNextCell_17 : decode cX0_enterNextCell 17 = .ok (.getfield 13, 3) := by decide +kernel
theorem dX0_enterNextCell_20 : decode cX0_enterNextCell 20 = .ok (.aload_n 0, 1) := by decide +kernel
theorem dX0_enterNextCell_21 : decode cX0_enterNextCell 21 = .ok (.getfield 16, 3) := by decide +kernel
theorem dX0_enterNextCell_24 : decode cX0_enterNextCell 24 = .ok (.invokestatic 45, 3) := by decide +kernel
theorem dX0_enterNextCell_27 : decode cX0_enterNextCell 27 = .ok (.putfield 13, 3) := by decide +kernel
theorem dX0_enterNextCell_30 : decode cX0_enterNextCell 30 = .ok (.return_, 1) := by decide +kernel
theorem dX0_isAt_0 : decode cX0_isAt 0 = .ok (.aload_n 0, 1) := by decide +kernel
theorem dX0_isAt_1 : decode cX0_isAt 1 = .ok (.getfield 7, 3) := by decide +kernel
theorem dX0_isAt_4 : decode cX0_isAt 4 = .ok (.iload_n 1, 1) := by decide +kernel
theorem dX0_isAt_5 : decode cX0_isAt 5 = .ok (.if_icmp .ne 15, 3) := by decide +kernel
theorem dX0_isAt_8 : decode cX0_isAt 8 = .ok (.aload_n 0, 1) := by decide +kernel
theorem dX0_isAt_9 : decode cX0_isAt 9 = .ok (.getfield 13, 3) := by decide +kernel
theorem dX0_isAt_12 : decode cX0_isAt 12 = .ok (.iload_n 2, 1) := by decide +kernel
theorem dX0_isAt_13 : decode cX0_isAt 13 = .ok (.if_icmp .ne 7, 3) := by decide +kernel
theorem dX0_isAt_16 : decode cX0_isAt 16 = .ok (.iconst 1, 1) := by decide +kernel
theorem dX0_isAt_17 : decode cX0_isAt 17 = .ok (.goto 4, 3) := by decide +kernel
theorem dX0_isAt_20 : decode cX0_isAt 20 = .ok (.iconst 0, 1) := by decide +kernel
theorem dX0_isAt_21 : decode cX0_isAt 21 = .ok (.ireturn, 1) := by decide +kernel
theorem dX0_meets_0 : decode cX0_meets 0 = .ok (.aload_n 0, 1) := by decide +kernel
theorem dX0_meets_1 : decode cX0_meets 1 = .ok (.aload_n 1, 1) := by decide +kernel
theorem dX0_meets_2 : decode cX0_meets 2 = .ok (.getfield 7, 3) := by decide +kernel
theorem dX0_meets_5 : decode cX0_meets 5 = .ok (.aload_n 1, 1) := by decide +kernel
theorem dX0_meets_6 : decode cX0_meets 6 = .ok (.getfield 13, 3) := by decide +kernel
theorem dX0_meets_9 : decode cX0_meets 9 = .ok (.invokevirtual 48, 3) := by decide +kernel
theorem dX0_meets_12 : decode cX0_meets 12 = .ok (.ifCond .ne 33, 3) := by decide +kernel
theorem dX0_meets_15 : decode cX0_meets 15 = .ok (.aload_n 0, 1) := by decide +kernel
theorem dX0_meets_16 : decode cX0_meets 16 = .ok (.aload_n 1, 1) := by decide +kernel
theorem dX0_meets_17 : decode cX0_meets 17 = .ok (.getfield 33, 3) := by decide +kernel
theorem dX0_meets_20 : decode cX0_meets 20 = .ok (.aload_n 1, 1) := by decide +kernel
theorem dX0_meets_21 : decode cX0_meets 21 = .ok (.getfield 36, 3) := by decide +kernel
theorem dX0_meets_24 : decode cX0_meets 24 = .ok (.invokevirtual 48, 3) := by decide +kernel
theorem dX0_meets_27 : decode cX0_meets 27 = .ok (.ifCond .eq 22, 3) := by decide +kernel
theorem dX0_meets_30 : decode cX0_meets 30 = .ok (.aload_n 1, 1) := by decide +kernel
theorem dX0_meets_31 : decode cX0_meets 31 = .ok (.aload_n 0, 1) := by decide +kernel
theorem dX0_meets_32 : decode cX0_meets 32 = .ok (.getfield 33, 3) := by decide +kernel
theorem dX0_meets_35 : decode cX0_meets 35 = .ok (.aload_n 0, 1) := by decide +kernel
theorem dX0_meets_36 : decode cX0_meets 36 = .ok (.getfield 36, 3) := by decide +kernel
theorem dX0_meets_39 : decode cX0_meets 39 = .ok (.invokevirtual 48, 3) := by decide +kernel
theorem dX0_meets_42 : decode cX0_meets 42 = .ok (.ifCond .eq 7, 3) := by decide +kernel
theorem dX0_meets_45 : decode cX0_meets 45 = .ok (.iconst 1, 1) := by decide +kernel
theorem dX0_meets_46 : decode cX0_meets 46 = .ok (.goto 4, 3) := by decide +kernel
theorem dX0_meets_49 : decode cX0_meets 49 = .ok (.iconst 0, 1) := by decide +kernel
theorem dX0_meets_50 : decode cX0_meets 50 = .ok (.ireturn, 1) := by decide +kernel
theorem dX0_aimAt_0 : decode cX0_aimAt 0 = .ok (.aload_n 0, 1) := by decide +kernel
theorem dX0_aimAt_1 : decode cX0_aimAt 1 = .ok (.iload_n 1, 1) := by decide +kernel
theorem dX0_aimAt_2 : decode cX0_aimAt 2 = .ok (.putfield 52, 3) := by decide +kernel
theorem dX0_aimAt_5 : decode cX0_aimAt 5 = .ok (.aload_n 0, 1) := by decide +kernel
theorem dX0_aimAt_6 : decode cX0_aimAt 6 = .ok (.iload_n 2, 1) := by decide +kernel
theorem dX0_aimAt_7 : decode cX0_aimAt 7 = .ok (.putfield 55, 3) := by decide +kernel
theorem dX0_aimAt_10 : decode cX0_aimAt 10 = .ok (.return_, 1) := by decide +kernel
theorem dX1_init_0 : decode cX1_init 0 = .ok (.aload_n 0, 1) := by decide +kernel
theorem dX1_init_1 : decode cX1_init 1 = .ok (.invokespecial 3, 3) := by decide +kernel
theorem dX1_init_4 : decode cX1_init 4 = .ok (.aload_n 0, 1) := by decide +kernel
theorem dX1_init_5 : decode cX1_init 5 = .ok (.new 9, 3) := by decide +kernel
theorem dX1_init_8 : decode cX1_init 8 = .ok (.dup, 1) := by decide +kernel
theorem dX1_init_9 : decode cX1_init 9 = .ok (.invokespecial 11, 3) := by decide +kernel
theorem dX1_init_12 : decode cX1_init 12 = .ok (.putfield 12, 3) := by decide +kernel
theorem dX1_init_15 : decode cX1_init 15 = .ok (.aload_n 0, 1) := by decide +kernel
theorem dX1_init_16 : decode cX1_init 16 = .ok (.iconst 5, 1) := by decide +kernel
theorem dX1_init_17 : decode cX1_init 17 = .ok (.anewarray 18, 3) := by decide +kernel
theorem dX1_init_20 : decode cX1_init 20 = .ok (.putfield 20, 3) := by decide +kernel
theorem dX1_init_23 : decode cX1_init 23 = .ok (.iconst 0, 1) := by decide +kernel
theorem dX1_init_24 : decode cX1_init 24 = .ok (.istore_n 1, 1) := by decide +kernel
theorem dX1_init_25 : decode cX1_init 25 = .ok (.iload_n 1, 1) := by decide +kernel
theorem dX1_init_26 : decode cX1_init 26 = .ok (.iconst 5, 1) := by decide +kernel
theorem dX1_init_27 : decode cX1_init 27 = .ok (.if_icmp .ge 22, 3) := by decide +kernel
theorem dX1_init_30 : decode cX1_init 30 = .ok (.aload_n 0, 1) := by decide +kernel
theorem dX1_init_31 : decode cX1_init 31 = .ok (.getfield 20, 3) := by decide +kernel
theorem dX1_init_34 : decode cX1_init 34 = .ok (.iload_n 1, 1) := by decide +kernel
theorem dX1_init_35 : decode cX1_init 35 = .ok (.new 18, 3) := by decide +kernel
theorem dX1_init_38 : decode cX1_init 38 = .ok (.dup, 1) := by decide +kernel
theorem dX1_init_39 : decode cX1_init 39 = .ok (.invokespecial 24, 3) := by decide +kernel
theorem dX1_init_42 : decode cX1_init 42 = .ok (.aastore, 1) := by decide +kernel
theorem dX1_init_43 : decode cX1_init 43 = .ok (.iinc 1 1, 3) := by decide +kernel
theorem dX1_init_46 : decode cX1_init 46 = .ok (.goto (-21), 3) := by decide +kernel
theorem dX1_init_49 : decode cX1_init 49 = .ok (.aload_n 0, 1) := by decide +kernel
theorem dX1_init_50 : decode cX1_init 50 = .ok (.aload_n 0, 1) := by decide +kernel
theorem dX1_init_51 : decode cX1_init 51 = .ok (.getfield 20, 3) := by decide +kernel
theorem dX1_init_54 : decode cX1_init 54 = .ok (.iconst 0, 1) := by decide +kernel
theorem dX1_init_55 : decode cX1_init 55 = .ok (.aaload, 1) := by decide +kernel
theorem dX1_init_56 : decode cX1_init 56 = .ok (.putfield 25, 3) := by decide +kernel
theorem dX1_init_59 : decode cX1_init 59 = .ok (.aload_n 0, 1) := by decide +kernel
theorem dX1_init_60 : decode cX1_init 60 = .ok (.invokevirtual 29, 3) := by decide +kernel
theorem dX1_init_63 : decode cX1_init 63 = .ok (.return_, 1) := by decide +kernel
theorem dX1_clear_0 : decode cX1_clear 0 = .ok (.aload_n 0, 1) := by decide +kernel
theorem dX1_clear_1 : decode cX1_clear 1 = .ok (.iconst 0, 1) := by decide +kernel
theorem dX1_clear_2 : decode cX1_clear 2 = .ok (.putfield 32, 3) := by decide +kernel
theorem dX1_clear_5 : decode cX1_clear 5 = .ok (.aload_n 0, 1) := by decide +kernel
theorem dX1_clear_6 : decode cX1_clear 6 = .ok (.iconst 0, 1) := by decide +kernel
theorem dX1_clear_7 : decode cX1_clear 7 = .ok (.putfield 36, 3) := by decide +kernel
theorem dX1_clear_10 : decode cX1_clear 10 = .ok (.aload_n 0, 1) := by decide +kernel
theorem dX1_clear_11 : decode cX1_clear 11 = .ok (.iconst 0, 1) := by decide +kernel
theorem dX1_clear_12 : decode cX1_clear 12 = .ok (.putfield 40, 3) := by decide +kernel
theorem dX1_clear_15 : decode cX1_clear 15 = .ok (.aload_n 0, 1) := by decide +kernel
theorem dX1_clear_16 : decode cX1_clear 16 = .ok (.invokevirtual 43, 3) := by decide +kernel
theorem dX1_clear_19 : decode cX1_clear 19 = .ok (.return_, 1) := by decide +kernel
theorem dX1_begin_0 : decode cX1_begin 0 = .ok (.aload_n 0, 1) := by decide +kernel
theorem dX1_begin_1 : decode cX1_begin 1 = .ok (.iconst 1, 1) := by decide +kernel
theorem dX1_begin_2 : decode cX1_begin 2 = .ok (.putfield 32, 3) := by decide +kernel
theorem dX1_begin_5 : decode cX1_begin 5 = .ok (.aload_n 0, 1) := by decide +kernel
theorem dX1_begin_6 : decode cX1_begin 6 = .ok (.iconst 3, 1) := by decide +kernel
theorem dX1_begin_7 : decode cX1_begin 7 = .ok (.putfield 36, 3) := by decide +kernel
theorem dX1_begin_10 : decode cX1_begin 10 = .ok (.aload_n 0, 1) := by decide +kernel
theorem dX1_begin_11 : decode cX1_begin 11 = .ok (.iconst 1, 1) := by decide +kernel
theorem dX1_begin_12 : decode cX1_begin 12 = .ok (.putfield 40, 3) := by decide +kernel
theorem dX1_begin_15 : decode cX1_begin 15 = .ok (.aload_n 0, 1) := by decide +kernel
theorem dX1_begin_16 : decode cX1_begin 16 = .ok (.invokevirtual 43, 3) := by decide +kernel
theorem dX1_begin_19 : decode cX1_begin 19 = .ok (.return_, 1) := by decide +kernel
theorem dX1_setUp_0 : decode cX1_setUp 0 = .ok (.aload_n 0, 1) := by decide +kernel
theorem dX1_setUp_1 : decode cX1_setUp 1 = .ok (.iconst 0, 1) := by decide +kernel
theorem dX1_setUp_2 : decode cX1_setUp 2 = .ok (.putfield 46, 3) := by decide +kernel
theorem dX1_setUp_5 : decode cX1_setUp 5 = .ok (.aload_n 0, 1) := by decide +kernel
theorem dX1_setUp_6 : decode cX1_setUp 6 = .ok (.iconst 0, 1) := by decide +kernel
theorem dX1_setUp_7 : decode cX1_setUp 7 = .ok (.putfield 49, 3) := by decide +kernel
theorem dX1_setUp_10 : decode cX1_setUp 10 = .ok (.aload_n 0, 1) := by decide +kernel
theorem dX1_setUp_11 : decode cX1_setUp 11 = .ok (.iconst 0, 1) := by decide +kernel
theorem dX1_setUp_12 : decode cX1_setUp 12 = .ok (.putfield 52, 3) := by decide +kernel
theorem dX1_setUp_15 : decode cX1_setUp 15 = .ok (.aload_n 0, 1) := by decide +kernel
theorem dX1_setUp_16 : decode cX1_setUp 16 = .ok (.iconst 1, 1) := by decide +kernel
theorem dX1_setUp_17 : decode cX1_setUp 17 = .ok (.putfield 55, 3) := by decide +kernel
theorem dX1_setUp_20 : decode cX1_setUp 20 = .ok (.aload_n 0, 1) := by decide +kernel
theorem dX1_setUp_21 : decode cX1_setUp 21 = .ok (.getfield 12, 3) := by decide +kernel
theorem dX1_setUp_24 : decode cX1_setUp 24 = .ok (.invokevirtual 58, 3) := by decide +kernel
theorem dX1_setUp_27 : decode cX1_setUp 27 = .ok (.aload_n 0, 1) := by decide +kernel
theorem dX1_setUp_28 : decode cX1_setUp 28 = .ok (.invokevirtual 61, 3) := by decide +kernel
theorem dX1_setUp_31 : decode cX1_setUp 31 = .ok (.return_, 1) := by decide +kernel
theorem dX1_placeActors_0 : decode cX1_placeActors 0 = .ok (.aload_n 0, 1) := by decide +kernel
theorem dX1_placeActors_1 : decode cX1_placeActors 1 = .ok (.getfield 25, 3) := by decide +kernel
theorem dX1_placeActors_4 : decode cX1_placeActors 4 = .ok (.bipush 6, 2) := by decide +kernel
theorem dX1_placeActors_6 : decode cX1_placeActors 6 = .ok (.bipush 6, 2) := by decide +kernel
theorem dX1_placeActors_8 : decode cX1_placeActors 8 = .ok (.iconst 1, 1) := by decide +kernel
theorem dX1_placeActors_9 : decode cX1_placeActors 9 = .ok (.iconst 0, 1) := by decide +kernel
theorem dX1_placeActors_10 : decode cX1_placeActors 10 = .ok (.invokevirtual 64, 3) := by decide +kernel
theorem dX1_placeActors_13 : decode cX1_placeActors 13 = .ok (.aload_n 0, 1) := by decide +kernel
theorem dX1_placeActors_14 : decode cX1_placeActors 14 = .ok (.getfield 20, 3) := by decide +kernel
theorem dX1_placeActors_17 : decode cX1_placeActors 17 = .ok (.iconst 1, 1) := by decide +kernel
theorem dX1_placeActors_18 : decode cX1_placeActors 18 = .ok (.aaload, 1) := by decide +kernel
theorem dX1_placeActors_19 : decode cX1_placeActors 19 = .ok (.bipush 6, 2) := by decide +kernel
theorem dX1_placeActors_21 : decode cX1_placeActors 21 = .ok (.iconst 2, 1) := by decide +kernel
theorem dX1_placeActors_22 : decode cX1_placeActors 22 = .ok (.iconst 1, 1) := by decide +kernel
theorem dX1_placeActors_23 : decode cX1_placeActors 23 = .ok (.iconst 0, 1) := by decide +kernel
theorem dX1_placeActors_24 : decode cX1_placeActors 24 = .ok (.invokevirtual 64, 3) := by decide +kernel
theorem dX1_placeActors_27 : decode cX1_placeActors 27 = .ok (.aload_n 0, 1) := by decide +kernel
theorem dX1_placeActors_28 : decode cX1_placeActors 28 = .ok (.getfield 20, 3) := by decide +kernel
theorem dX1_placeActors_31 : decode cX1_placeActors 31 = .ok (.iconst 2, 1) := by decide +kernel
theorem dX1_placeActors_32 : decode cX1_placeActors 32 = .ok (.aaload, 1) := by decide +kernel
theorem dX1_placeActors_33 : decode cX1_placeActors 33 = .ok (.bipush 6, 2) := by decide +kernel
theorem dX1_placeActors_35 : decode cX1_placeActors 35 = .ok (.iconst 4, 1) := by decide +kernel
theorem dX1_placeActors_36 : decode cX1_placeActors 36 = .ok (.iconst 0, 1) := by decide +kernel
theorem dX1_placeActors_37 : decode cX1_placeActors 37 = .ok (.bipush 40, 2) := by decide +kernel
theorem dX1_placeActors_39 : decode cX1_placeActors 39 = .ok (.invokevirtual 64, 3) := by decide +kernel
theorem dX1_placeActors_42 : decode cX1_placeActors 42 = .ok (.aload_n 0, 1) := by decide +kernel
theorem dX1_placeActors_43 : decode cX1_placeActors 43 = .ok (.getfield 20, 3) := by decide +kernel
theorem dX1_placeActors_46 : decode cX1_placeActors 46 = .ok (.iconst 3, 1) := by decide +kernel
theorem dX1_placeActors_47 : decode cX1_placeActors 47 = .ok (.aaload, 1) := by decide +kernel
theorem dX1_placeActors_48 : decode cX1_placeActors 48 = .ok (.iconst 5, 1) := by decide +kernel
theorem dX1_placeActors_49 : decode cX1_placeActors 49 = .ok (.iconst 4, 1) := by decide +kernel
theorem dX1_placeActors_50 : decode cX1_placeActors 50 = .ok (.iconst 0, 1) := by decide +kernel
theorem dX1_placeActors_51 : decode cX1_placeActors 51 = .ok (.bipush 80, 2) := by decide +kernel
theorem dX1_placeActors_53 : decode cX1_placeActors 53 = .ok (.invokevirtual 64, 3) := by decide +kernel
theorem dX1_placeActors_56 : decode cX1_placeActors 56 = .ok (.aload_n 0, 1) := by decide +kernel
theorem dX1_placeActors_57 : decode cX1_placeActors 57 = .ok (.getfield 20, 3) := by decide +kernel
theorem dX1_placeActors_60 : decode cX1_placeActors 60 = .ok (.iconst 4, 1) := by decide +kernel
theorem dX1_placeActors_61 : decode cX1_placeActors 61 = .ok (.aaload, 1) := by decide +kernel
theorem dX1_placeActors_62 : decode cX1_placeActors 62 = .ok (.bipush 7, 2) := by decide +kernel
theorem dX1_placeActors_64 : decode cX1_placeActors 64 = .ok (.iconst 4, 1) := by decide +kernel
theorem dX1_placeActors_65 : decode cX1_placeActors 65 = .ok (.iconst 0, 1) := by decide +kernel
theorem dX1_placeActors_66 : decode cX1_placeActors 66 = .ok (.bipush 120, 2) := by decide +kernel
theorem dX1_placeActors_68 : decode cX1_placeActors 68 = .ok (.invokevirtual 64, 3) := by decide +kernel
theorem dX1_placeActors_71 : decode cX1_placeActors 71 = .ok (.aload_n 0, 1) := by decide +kernel
theorem dX1_placeActors_72 : decode cX1_placeActors 72 = .ok (.iconst 0, 1) := by decide +kernel
theorem dX1_placeActors_73 : decode cX1_placeActors 73 = .ok (.putfield 68, 3) := by decide +kernel
theorem dX1_placeActors_76 : decode cX1_placeActors 76 = .ok (.aload_n 0, 1) := by decide +kernel
theorem dX1_placeActors_77 : decode cX1_placeActors 77 = .ok (.iconst 0, 1) := by decide +kernel
theorem dX1_placeActors_78 : decode cX1_placeActors 78 = .ok (.putfield 71, 3) := by decide +kernel
theorem dX1_placeActors_81 : decode cX1_placeActors 81 = .ok (.return_, 1) := by decide +kernel
theorem dX1_playFrame_0 : decode cX1_playFrame 0 = .ok (.aload_n 0, 1) := by decide +kernel
theorem dX1_playFrame_1 : decode cX1_playFrame 1 = .ok (.iconst 0, 1) := by decide +kernel
theorem dX1_playFrame_2 : decode cX1_playFrame 2 = .ok (.putfield 74, 3) := by decide +kernel
theorem dX1_playFrame_5 : decode cX1_playFrame 5 = .ok (.aload_n 0, 1) := by decide +kernel
theorem dX1_playFrame_6 : decode cX1_playFrame 6 = .ok (.iconst 0, 1) := by decide +kernel
theorem dX1_playFrame_7 : decode cX1_playFrame 7 = .ok (.putfield 77, 3) := by decide +kernel
theorem dX1_playFrame_10 : decode cX1_playFrame 10 = .ok (.aload_n 0, 1) := by decide +kernel
theorem dX1_playFrame_11 : decode cX1_playFrame 11 = .ok (.iconst 0, 1) := by decide +kernel
theorem dX1_playFrame_12 : decode cX1_playFrame 12 = .ok (.putfield 80, 3) := by decide +kernel
theorem dX1_playFrame_15 : decode cX1_playFrame 15 = .ok (.aload_n 0, 1) := by decide +kernel
theorem dX1_playFrame_16 : decode cX1_playFrame 16 = .ok (.getfield 32, 3) := by decide +kernel
theorem dX1_playFrame_19 : decode cX1_playFrame 19 = .ok (.ifCond .ne 4, 3) := by decide +kernel
theorem dX1_playFrame_22 : decode cX1_playFrame 22 = .ok (.return_, 1) := by decide +kernel
theorem dX1_playFrame_23 : decode cX1_playFrame 23 = .ok (.iconst 0, 1) := by decide +kernel
theorem dX1_playFrame_24 : decode cX1_playFrame 24 = .ok (.istore_n 2, 1) := by decide +kernel
theorem dX1_playFrame_25 : decode cX1_playFrame 25 = .ok (.iload_n 2, 1) := by decide +kernel
theorem dX1_playFrame_26 : decode cX1_playFrame 26 = .ok (.iconst 5, 1) := by decide +kernel
theorem dX1_playFrame_27 : decode cX1_playFrame 27 = .ok (.if_icmp .ge 18, 3) := by decide +kernel
theorem dX1_playFrame_30 : decode cX1_playFrame 30 = .ok (.aload_n 0, 1) := by decide +kernel
theorem dX1_playFrame_31 : decode cX1_playFrame 31 = .ok (.getfield 20, 3) := by decide +kernel
theorem dX1_playFrame_34 : decode cX1_playFrame 34 = .ok (.iload_n 2, 1) := by decide +kernel
theorem dX1_playFrame_35 : decode cX1_playFrame 35 = .ok (.aaload, 1) := by decide +kernel
theorem dX1_playFrame_36 : decode cX1_playFrame 36 = .ok (.invokevirtual 83, 3) := by decide +kernel
theorem dX1_playFrame_39 : decode cX1_playFrame 39 = .ok (.iinc 2 1, 3) := by decide +kernel
theorem dX1_playFrame_42 : decode cX1_playFrame 42 = .ok (.goto (-17), 3) := by decide +kernel
theorem dX1_playFrame_45 : decode cX1_playFrame 45 = .ok (.aload_n 0, 1) := by decide +kernel
theorem dX1_playFrame_46 : decode cX1_playFrame 46 = .ok (.invokevirtual 86, 3) := by decide +kernel
theorem dX1_playFrame_49 : decode cX1_playFrame 49 = .ok (.aload_n 0, 1) := by decide +kernel
theorem dX1_playFrame_50 : decode cX1_playFrame 50 = .ok (.iload_n 1, 1) := by decide +kernel
theorem dX1_playFrame_51 : decode cX1_playFrame 51 = .ok (.invokevirtual 89, 3) := by decide +kernel
theorem dX1_playFrame_54 : decode cX1_playFrame 54 = .ok (.ifCond .eq 7, 3) := by decide +kernel
theorem dX1_playFrame_57 : decode cX1_playFrame 57 = .ok (.aload_n 0, 1) := by decide +kernel
theorem dX1_playFrame_58 : decode cX1_playFrame 58 = .ok (.invokevirtual 93, 3) := by decide +kernel
theorem dX1_playFrame_61 : decode cX1_playFrame 61 = .ok (.iconst 1, 1) := by decide +kernel
theorem dX1_playFrame_62 : decode cX1_playFrame 62 = .ok (.istore_n 2, 1) := by decide +kernel
theorem dX1_playFrame_63 : decode cX1_playFrame 63 = .ok (.iload_n 2, 1) := by decide +kernel
theorem dX1_playFrame_64 : decode cX1_playFrame 64 = .ok (.iconst 5, 1) := by decide +kernel
theorem dX1_playFrame_65 : decode cX1_playFrame 65 = .ok (.if_icmp .ge 14, 3) := by decide +kernel
theorem dX1_playFrame_68 : decode cX1_playFrame 68 = .ok (.aload_n 0, 1) := by decide +kernel
theorem dX1_playFrame_69 : decode cX1_playFrame 69 = .ok (.iload_n 2, 1) := by decide +kernel
theorem dX1_playFrame_70 : decode cX1_playFrame 70 = .ok (.invokevirtual 96, 3) := by decide +kernel
theorem dX1_playFrame_73 : decode cX1_playFrame 73 = .ok (.iinc 2 1, 3) := by decide +kernel
theorem dX1_playFrame_76 : decode cX1_playFrame 76 = .ok (.goto (-13), 3) := by decide +kernel
theorem dX1_playFrame_79 : decode cX1_playFrame 79 = .ok (.aload_n 0, 1) := by decide +kernel
theorem dX1_playFrame_80 : decode cX1_playFrame 80 = .ok (.invokevirtual 100, 3) := by decide +kernel
theorem dX1_playFrame_83 : decode cX1_playFrame 83 = .ok (.aload_n 0, 1) := by decide +kernel
theorem dX1_playFrame_84 : decode cX1_playFrame 84 = .ok (.getfield 12, 3) := by decide +kernel
theorem dX1_playFrame_87 : decode cX1_playFrame 87 = .ok (.getfield 103, 3) := by decide +kernel
theorem dX1_playFrame_90 : decode cX1_playFrame 90 = .ok (.ifCond .ne 31, 3) := by decide +kernel
theorem dX1_playFrame_93 : decode cX1_playFrame 93 = .ok (.aload_n 0, 1) := by decide +kernel
theorem dX1_playFrame_94 : decode cX1_playFrame 94 = .ok (.getfield 80, 3) := by decide +kernel
theorem dX1_playFrame_97 : decode cX1_playFrame 97 = .ok (.ifCond .ne 24, 3) := by decide +kernel
theorem dX1_playFrame_100 : decode cX1_playFrame 100 = .ok (.aload_n 0, 1) := by decide +kernel
theorem dX1_playFrame_101 : decode cX1_playFrame 101 = .ok (.dup, 1) := by decide +kernel
theorem dX1_playFrame_102 : decode cX1_playFrame 102 = .ok (.getfield 40, 3) := by decide +kernel
theorem dX1_playFrame_105 : decode cX1_playFrame 105 = .ok (.iconst 1, 1) := by decide +kernel
theorem dX1_playFrame_106 : decode cX1_playFrame 106 = .ok (.iadd, 1) := by decide +kernel
theorem dX1_playFrame_107 : decode cX1_playFrame 107 = .ok (.putfield 40, 3) := by decide +kernel
theorem dX1_playFrame_110 : decode cX1_playFrame 110 = .ok (.aload_n 0, 1) := by decide +kernel
theorem dX1_playFrame_111 : decode cX1_playFrame 111 = .ok (.getfield 12, 3) := by decide +kernel
theorem dX1_playFrame_114 : decode cX1_playFrame 114 = .ok (.invokevirtual 58, 3) := by decide +kernel
theorem dX1_playFrame_117 : decode cX1_playFrame 117 = .ok (.aload_n 0, 1) := by decide +kernel
theorem dX1_playFrame_118 : decode cX1_playFrame 118 = .ok (.invokevirtual 61, 3) := by decide +kernel
theorem dX1_playFrame_121 : decode cX1_playFrame 121 = .ok (.return_, 1) := by decide +kernel
theorem dX1_passTime_0 : decode cX1_passTime 0 = .ok (.aload_n 0, 1) := by decide +kernel
theorem dX1_passTime_1 : decode cX1_passTime 1 = .ok (.getfield 68, 3) := by decide +kernel
theorem dX1_passTime_4 : decode cX1_passTime 4 = .ok (.ifCond .ne 14, 3) := by decide +kernel
theorem dX1_passTime_7 : decode cX1_passTime 7 = .ok (.aload_n 0, 1) := by decide +kernel
theorem dX1_passTime_8 : decode cX1_passTime 8 = .ok (.dup, 1) := by decide +kernel
theorem dX1_passTime_9 : decode cX1_passTime 9 = .ok (.getfield 71, 3) := by decide +kernel
theorem dX1_passTime_12 : decode cX1_passTime 12 = .ok (.iconst 1, 1) := by decide +kernel
theorem dX1_passTime_13 : decode cX1_passTime 13 = .ok (.iadd, 1) := by decide +kernel
theorem dX1_passTime_14 : decode cX1_passTime 14 = .ok (.putfield 71, 3) := by decide +kernel
theorem dX1_passTime_17 : decode cX1_passTime 17 = .ok (.return_, 1) := by decide +kernel
theorem dX1_passTime_18 : decode cX1_passTime 18 = .ok (.aload_n 0, 1) := by decide +kernel
theorem dX1_passTime_19 : decode cX1_passTime 19 = .ok (.dup, 1) := by decide +kernel
theorem dX1_passTime_20 : decode cX1_passTime 20 = .ok (.getfield 68, 3) := by decide +kernel
theorem dX1_passTime_23 : decode cX1_passTime 23 = .ok (.iconst 1, 1) := by decide +kernel
theorem dX1_passTime_24 : decode cX1_passTime 24 = .ok (.isub, 1) := by decide +kernel
theorem dX1_passTime_25 : decode cX1_passTime 25 = .ok (.putfield 68, 3) := by decide +kernel
theorem dX1_passTime_28 : decode cX1_passTime 28 = .ok (.aload_n 0, 1) := by decide +kernel
theorem dX1_passTime_29 : decode cX1_passTime 29 = .ok (.getfield 68, 3) := by decide +kernel
theorem dX1_passTime_32 : decode cX1_passTime 32 = .ok (.ifCond .ne 26, 3) := by decide +kernel
theorem dX1_passTime_35 : decode cX1_passTime 35 = .ok (.iconst 1, 1) := by decide +kernel
theorem dX1_passTime_36 : decode cX1_passTime 36 = .ok (.istore_n 1, 1) := by decide +kernel
theorem dX1_passTime_37 : decode cX1_passTime 37 = .ok (.iload_n 1, 1) := by decide +kernel
theorem dX1_passTime_38 : decode cX1_passTime 38 = .ok (.iconst 5, 1) := by decide +kernel
theorem dX1_passTime_39 : decode cX1_passTime 39 = .ok (.if_icmp .ge 19, 3) := by decide +kernel
theorem dX1_passTime_42 : decode cX1_passTime 42 = .ok (.aload_n 0, 1) := by decide +kernel
theorem dX1_passTime_43 : decode cX1_passTime 43 = .ok (.getfield 20, 3) := by decide +kernel
theorem dX1_passTime_46 : decode cX1_passTime 46 = .ok (.iload_n 1, 1) := by decide +kernel
theorem dX1_passTime_47 : decode cX1_passTime 47 = .ok (.aaload, 1) := by decide +kernel
theorem dX1_passTime_48 : decode cX1_passTime 48 = .ok (.iconst 0, 1) := by decide +kernel
theorem dX1_passTime_49 : decode cX1_passTime 49 = .ok (.putfield 106, 3) := by decide +kernel
theorem dX1_passTime_52 : decode cX1_passTime 52 = .ok (.iinc 1 1, 3) := by decide +kernel
theorem dX1_passTime_55 : decode cX1_passTime 55 = .ok (.goto (-18), 3) := by decide +kernel
theorem dX1_passTime_58 : decode cX1_passTime 58 = .ok (.return_, 1) := by decide +kernel
theorem dX1_isScatter_0 : decode cX1_isScatter 0 = .ok (.aload_n 0, 1) := by decide +kernel
theorem dX1_isScatter_1 : decode cX1_isScatter 1 = .ok (.getfield 71, 3) := by decide +kernel
theorem dX1_isScatter_4 : decode cX1_isScatter 4 = .ok (.bipush 100, 2) := by decide +kernel
theorem dX1_isScatter_6 : decode cX1_isScatter 6 = .ok (.if_icmp .lt 43, 3) := by decide +kernel
theorem dX1_isScatter_9 : decode cX1_isScatter 9 = .ok (.aload_n 0, 1) := by decide +kernel
theorem dX1_isScatter_10 : decode cX1_isScatter 10 = .ok (.getfield 71, 3) := by decide +kernel
theorem dX1_isScatter_13 : decode cX1_isScatter 13 = .ok (.sipush 300, 3) := by decide +kernel
theorem dX1_isScatter_16 : decode cX1_isScatter 16 = .ok (.if_icmp .lt 13, 3) := by decide +kernel
theorem dX1_isScatter_19 : decode cX1_isScatter 19 = .ok (.aload_n 0, 1) := by decide +kernel
theorem dX1_isScatter_20 : decode cX1_isScatter 20 = .ok (.getfield 71, 3) := by decide +kernel
theorem dX1_isScatter_23 : decode cX1_isScatter 23 = .ok (.sipush 379, 3) := by decide +kernel
theorem dX1_isScatter_26 : decode cX1_isScatter 26 = .ok (.if_icmp .le 23, 3) := by decide +kernel
theorem dX1_isScatter_29 : decode cX1_isScatter 29 = .ok (.aload_n 0, 1) := by decide +kernel
theorem dX1_isScatter_30 : decode cX1_isScatter 30 = .ok (.getfield 71, 3) := by decide +kernel
theorem dX1_isScatter_33 : decode cX1_isScatter 33 = .ok (.sipush 600, 3) := by decide +kernel
theorem dX1_isScatter_36 : decode cX1_isScatter 36 = .ok (.if_icmp .lt 17, 3) := by decide +kernel
theorem dX1_isScatter_39 : decode cX1_isScatter 39 = .ok (.aload_n 0, 1) := by decide +kernel
theorem dX1_isScatter_40 : decode cX1_isScatter 40 = .ok (.getfield 71, 3) := by decide +kernel
theorem dX1_isScatter_43 : decode cX1_isScatter 43 = .ok (.sipush 659, 3) := by decide +kernel
theorem dX1_isScatter_46 : decode cX1_isScatter 46 = .ok (.if_icmp .gt 7, 3) := by decide +kernel
theorem dX1_isScatter_49 : decode cX1_isScatter 49 = .ok (.iconst 1, 1) := by decide +kernel
theorem dX1_isScatter_50 : decode cX1_isScatter 50 = .ok (.goto 4, 3) := by decide +kernel
theorem dX1_isScatter_53 : decode cX1_isScatter 53 = .ok (.iconst 0, 1) := by decide +kernel
theorem dX1_isScatter_54 : decode cX1_isScatter 54 = .ok (.ireturn, 1) := by decide +kernel
theorem dX1_movePlayer_0 : decode cX1_movePlayer 0 = .ok (.aload_n 0, 1) := by decide +kernel
theorem dX1_movePlayer_1 : decode cX1_movePlayer 1 = .ok (.getfield 25, 3) := by decide +kernel
theorem dX1_movePlayer_4 : decode cX1_movePlayer 4 = .ok (.getfield 109, 3) := by decide +kernel
theorem dX1_movePlayer_7 : decode cX1_movePlayer 7 = .ok (.fconst 0, 1) := by decide +kernel
theorem dX1_movePlayer_8 : decode cX1_movePlayer 8 = .ok (.fcmp .l, 1) := by decide +kernel
theorem dX1_movePlayer_9 : decode cX1_movePlayer 9 = .ok (.ifCond .ne 19, 3) := by decide +kernel
theorem dX1_movePlayer_12 : decode cX1_movePlayer 12 = .ok (.aload_n 0, 1) := by decide +kernel
theorem dX1_movePlayer_13 : decode cX1_movePlayer 13 = .ok (.iload_n 1, 1) := by decide +kernel
theorem dX1_movePlayer_14 : decode cX1_movePlayer 14 = .ok (.invokevirtual 113, 3) := by decide +kernel
theorem dX1_movePlayer_17 : decode cX1_movePlayer 17 = .ok (.ifCond .eq 11, 3) := by decide +kernel
theorem dX1_movePlayer_20 : decode cX1_movePlayer 20 = .ok (.aload_n 0, 1) := by decide +kernel
theorem dX1_movePlayer_21 : decode cX1_movePlayer 21 = .ok (.getfield 25, 3) := by decide +kernel
theorem dX1_movePlayer_24 : decode cX1_movePlayer 24 = .ok (.iload_n 1, 1) := by decide +kernel
theorem dX1_movePlayer_25 : decode cX1_movePlayer 25 = .ok (.putfield 116, 3) := by decide +kernel
theorem dX1_movePlayer_28 : decode cX1_movePlayer 28 = .ok (.aload_n 0, 1) := by decide +kernel
theorem dX1_movePlayer_29 : decode cX1_movePlayer 29 = .ok (.getfield 12, 3) := by decide +kernel
theorem dX1_movePlayer_32 : decode cX1_movePlayer 32 = .ok (.aload_n 0, 1) := by decide +kernel
theorem dX1_movePlayer_33 : decode cX1_movePlayer 33 = .ok (.getfield 25, 3) := by decide +kernel
theorem dX1_movePlayer_36 : decode cX1_movePlayer 36 = .ok (.aload_n 0, 1) := by decide +kernel
theorem dX1_movePlayer_37 : decode cX1_movePlayer 37 = .ok (.getfield 25, 3) := by decide +kernel
theorem dX1_movePlayer_40 : decode cX1_movePlayer 40 = .ok (.getfield 116, 3) := by decide +kernel
theorem dX1_movePlayer_43 : decode cX1_movePlayer 43 = .ok (.invokevirtual 119, 3) := by decide +kernel
theorem dX1_movePlayer_46 : decode cX1_movePlayer 46 = .ok (.ifCond .ne 13, 3) := by decide +kernel
theorem dX1_movePlayer_49 : decode cX1_movePlayer 49 = .ok (.aload_n 0, 1) := by decide +kernel
theorem dX1_movePlayer_50 : decode cX1_movePlayer 50 = .ok (.getfield 25, 3) := by decide +kernel
theorem dX1_movePlayer_53 : decode cX1_movePlayer 53 = .ok (.fconst 0, 1) := by decide +kernel
theorem dX1_movePlayer_54 : decode cX1_movePlayer 54 = .ok (.putfield 109, 3) := by decide +kernel
theorem dX1_movePlayer_57 : decode cX1_movePlayer 57 = .ok (.iconst 0, 1) := by decide +kernel
theorem dX1_movePlayer_58 : decode cX1_movePlayer 58 = .ok (.ireturn, 1) := by decide +kernel
theorem dX1_movePlayer_59 : decode cX1_movePlayer 59 = .ok (.aload_n 0, 1) := by decide +kernel
theorem dX1_movePlayer_60 : decode cX1_movePlayer 60 = .ok (.getfield 25, 3) := by decide +kernel
theorem dX1_movePlayer_63 : decode cX1_movePlayer 63 = .ok (.aload_n 0, 1) := by decide +kernel
theorem dX1_movePlayer_64 : decode cX1_movePlayer 64 = .ok (.getfield 25, 3) := by decide +kernel
theorem dX1_movePlayer_67 : decode cX1_movePlayer 67 = .ok (.getfield 109, 3) := by decide +kernel
theorem dX1_movePlayer_70 : decode cX1_movePlayer 70 = .ok (.ldc 123, 2) := by decide +kernel
theorem dX1_movePlayer_72 : decode cX1_movePlayer 72 = .ok (.fconst 1, 1) := by decide +kernel
theorem dX1_movePlayer_73 : decode cX1_movePlayer 73 = .ok (.ldc 124, 2) := by decide +kernel
theorem dX1_movePlayer_75 : decode cX1_movePlayer 75 = .ok (.aload_n 0, 1) := by decide +kernel
theorem dX1_movePlayer_76 : decode cX1_movePlayer 76 = .ok (.getfield 40, 3) := by decide +kernel
theorem dX1_movePlayer_79 : decode cX1_movePlayer 79 = .ok (.iconst 4, 1) := by decide +kernel
theorem dX1_movePlayer_80 : decode cX1_movePlayer 80 = .ok (.invokestatic 125, 3) := by decide +kernel
theorem dX1_movePlayer_83 : decode cX1_movePlayer 83 = .ok (.i2f, 1) := by decide +kernel
theorem dX1_movePlayer_84 : decode cX1_movePlayer 84 = .ok (.fmul, 1) := by decide +kernel
theorem dX1_movePlayer_85 : decode cX1_movePlayer 85 = .ok (.fadd, 1) := by decide +kernel
theorem dX1_movePlayer_86 : decode cX1_movePlayer 86 = .ok (.fmul, 1) := by decide +kernel
theorem dX1_movePlayer_87 : decode cX1_movePlayer 87 = .ok (.fadd, 1) := by decide +kernel
theorem dX1_movePlayer_88 : decode cX1_movePlayer 88 = .ok (.putfield 109, 3) := by decide +kernel
theorem dX1_movePlayer_91 : decode cX1_movePlayer 91 = .ok (.aload_n 0, 1) := by decide +kernel
theorem dX1_movePlayer_92 : decode cX1_movePlayer 92 = .ok (.getfield 25, 3) := by decide +kernel
theorem dX1_movePlayer_95 : decode cX1_movePlayer 95 = .ok (.getfield 109, 3) := by decide +kernel
theorem dX1_movePlayer_98 : decode cX1_movePlayer 98 = .ok (.fconst 1, 1) := by decide +kernel
theorem dX1_movePlayer_99 : decode cX1_movePlayer 99 = .ok (.fcmp .g, 1) := by decide +kernel
theorem dX1_movePlayer_100 : decode cX1_movePlayer 100 = .ok (.ifCond .ge 5, 3) := by decide +kernel
theorem dX1_movePlayer_103 : decode cX1_movePlayer 103 = .ok (.iconst 0, 1) := by decide +kernel
theorem dX1_movePlayer_104 : decode cX1_movePlayer 104 = .ok (.ireturn, 1) := by decide +kernel
theorem dX1_movePlayer_105 : decode cX1_movePlayer 105 = .ok (.aload_n 0, 1) := by decide +kernel
theorem dX1_movePlayer_106 : decode cX1_movePlayer 106 = .ok (.getfield 25, 3) := by decide +kernel
theorem dX1_movePlayer_109 : decode cX1_movePlayer 109 = .ok (.invokevirtual 131, 3) := by decide +kernel
theorem dX1_movePlayer_112 : decode cX1_movePlayer 112 = .ok (.aload_n 0, 1) := by decide +kernel
theorem dX1_movePlayer_113 : decode cX1_movePlayer 113 = .ok (.getfield 25, 3) := by decide +kernel
theorem dX1_movePlayer_116 : decode cX1_movePlayer 116 = .ok (.aload_n 0, 1) := by decide +kernel
theorem dX1_movePlayer_117 : decode cX1_movePlayer 117 = .ok (.getfield 25, 3) := by decide +kernel
theorem dX1_movePlayer_120 : decode cX1_movePlayer 120 = .ok (.getfield 109, 3) := by decide +kernel
theorem dX1_movePlayer_123 : decode cX1_movePlayer 123 = .ok (.fconst 1, 1) := by decide +kernel
theorem dX1_movePlayer_124 : decode cX1_movePlayer 124 = .ok (.fsub, 1) := by decide +kernel
theorem dX1_movePlayer_125 : decode cX1_movePlayer 125 = .ok (.putfield 109, 3) := by decide +kernel
theorem dX1_movePlayer_128 : decode cX1_movePlayer 128 = .ok (.aload_n 0, 1) := by decide +kernel
theorem dX1_movePlayer_129 : decode cX1_movePlayer 129 = .ok (.getfield 12, 3) := by decide +kernel
theorem dX1_movePlayer_132 : decode cX1_movePlayer 132 = .ok (.aload_n 0, 1) := by decide +kernel
theorem dX1_movePlayer_133 : decode cX1_movePlayer 133 = .ok (.getfield 25, 3) := by decide +kernel
theorem dX1_movePlayer_136 : decode cX1_movePlayer 136 = .ok (.aload_n 0, 1) := by decide +kernel
theorem dX1_movePlayer_137 : decode cX1_movePlayer 137 = .ok (.getfield 25, 3) := by decide +kernel
theorem dX1_movePlayer_140 : decode cX1_movePlayer 140 = .ok (.getfield 116, 3) := by decide +kernel
theorem dX1_movePlayer_143 : decode cX1_movePlayer 143 = .ok (.invokevirtual 119, 3) := by decide +kernel
theorem dX1_movePlayer_146 : decode cX1_movePlayer 146 = .ok (.ifCond .eq 11, 3) := by decide +kernel
theorem dX1_movePlayer_149 : decode cX1_movePlayer 149 = .ok (.aload_n 0, 1) := by decide +kernel
theorem dX1_movePlayer_150 : decode cX1_movePlayer 150 = .ok (.iload_n 1, 1) := by decide +kernel
theorem dX1_movePlayer_151 : decode cX1_movePlayer 151 = .ok (.invokevirtual 113, 3) := by decide +kernel
theorem dX1_movePlayer_154 : decode cX1_movePlayer 154 = .ok (.ifCond .eq 11, 3) := by decide +kernel
theorem dX1_movePlayer_157 : decode cX1_movePlayer 157 = .ok (.aload_n 0, 1) := by decide +kernel
theorem dX1_movePlayer_158 : decode cX1_movePlayer 158 = .ok (.getfield 25, 3) := by decide +kernel
theorem dX1_movePlayer_161 : decode cX1_movePlayer 161 = .ok (.fconst 0, 1) := by decide +kernel
theorem dX1_movePlayer_162 : decode cX1_movePlayer 162 = .ok (.putfield 109, 3) := by decide +kernel
theorem dX1_movePlayer_165 : decode cX1_movePlayer 165 = .ok (.iconst 1, 1) := by decide +kernel
theorem dX1_movePlayer_166 : decode cX1_movePlayer 166 = .ok (.ireturn, 1) := by decide +kernel
