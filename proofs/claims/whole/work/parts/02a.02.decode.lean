theorem dX1_isStickOpen_0 : decode cX1_isStickOpen 0 = .ok (.iload_n 1, 1) := by decide +kernel
theorem dX1_isStickOpen_1 : decode cX1_isStickOpen 1 = .ok (.iconst (-1), 1) := by decide +kernel
theorem dX1_isStickOpen_2 : decode cX1_isStickOpen 2 = .ok (.if_icmp .eq 22, 3) := by decide +kernel
theorem dX1_isStickOpen_5 : decode cX1_isStickOpen 5 = .ok (.aload_n 0, 1) := by decide +kernel
theorem dX1_isStickOpen_6 : decode cX1_isStickOpen 6 = .ok (.getfield 12, 3) := by decide +kernel
theorem dX1_isStickOpen_9 : decode cX1_isStickOpen 9 = .ok (.aload_n 0, 1) := by decide +kernel
theorem dX1_isStickOpen_10 : decode cX1_isStickOpen 10 = .ok (.getfield 25, 3) := by decide +kernel
theorem dX1_isStickOpen_13 : decode cX1_isStickOpen 13 = .ok (.iload_n 1, 1) := by decide +kernel
theorem dX1_isStickOpen_14 : decode cX1_isStickOpen 14 = .ok (.invokevirtual 119, 3) := by decide +kernel
theorem dX1_isStickOpen_17 : decode cX1_isStickOpen 17 = .ok (.ifCond .eq 7, 3) := by decide +kernel
theorem dX1_isStickOpen_20 : decode cX1_isStickOpen 20 = .ok (.iconst 1, 1) := by decide +kernel
theorem dX1_isStickOpen_21 : decode cX1_isStickOpen 21 = .ok (.goto 4, 3) := by decide +kernel
theorem dX1_isStickOpen_24 : decode cX1_isStickOpen 24 = .ok (.iconst 0, 1) := by decide +kernel
theorem dX1_isStickOpen_25 : decode cX1_isStickOpen 25 = .ok (.ireturn, 1) := by decide +kernel
theorem dX1_eatHere_0 : decode cX1_eatHere 0 = .ok (.aload_n 0, 1) := by decide +kernel
theorem dX1_eatHere_1 : decode cX1_eatHere 1 = .ok (.getfield 12, 3) := by decide +kernel
theorem dX1_eatHere_4 : decode cX1_eatHere 4 = .ok (.aload_n 0, 1) := by decide +kernel
theorem dX1_eatHere_5 : decode cX1_eatHere 5 = .ok (.getfield 25, 3) := by decide +kernel
theorem dX1_eatHere_8 : decode cX1_eatHere 8 = .ok (.getfield 134, 3) := by decide +kernel
theorem dX1_eatHere_11 : decode cX1_eatHere 11 = .ok (.aload_n 0, 1) := by decide +kernel
theorem dX1_eatHere_12 : decode cX1_eatHere 12 = .ok (.getfield 25, 3) := by decide +kernel
theorem dX1_eatHere_15 : decode cX1_eatHere 15 = .ok (.getfield 137, 3) := by decide +kernel
theorem dX1_eatHere_18 : decode cX1_eatHere 18 = .ok (.invokevirtual 140, 3) := by decide +kernel
theorem dX1_eatHere_21 : decode cX1_eatHere 21 = .ok (.istore_n 1, 1) := by decide +kernel
theorem dX1_eatHere_22 : decode cX1_eatHere 22 = .ok (.iload_n 1, 1) := by decide +kernel
theorem dX1_eatHere_23 : decode cX1_eatHere 23 = .ok (.iconst 2, 1) := by decide +kernel
theorem dX1_eatHere_24 : decode cX1_eatHere 24 = .ok (.if_icmp .ne 17, 3) := by decide +kernel
theorem dX1_eatHere_27 : decode cX1_eatHere 27 = .ok (.aload_n 0, 1) := by decide +kernel
theorem dX1_eatHere_28 : decode cX1_eatHere 28 = .ok (.iconst 1, 1) := by decide +kernel
theorem dX1_eatHere_29 : decode cX1_eatHere 29 = .ok (.putfield 74, 3) := by decide +kernel
theorem dX1_eatHere_32 : decode cX1_eatHere 32 = .ok (.aload_n 0, 1) := by decide +kernel
theorem dX1_eatHere_33 : decode cX1_eatHere 33 = .ok (.bipush 10, 2) := by decide +kernel
theorem dX1_eatHere_35 : decode cX1_eatHere 35 = .ok (.invokevirtual 143, 3) := by decide +kernel
theorem dX1_eatHere_38 : decode cX1_eatHere 38 = .ok (.goto 23, 3) := by decide +kernel
theorem dX1_eatHere_41 : decode cX1_eatHere 41 = .ok (.iload_n 1, 1) := by decide +kernel
theorem dX1_eatHere_42 : decode cX1_eatHere 42 = .ok (.iconst 3, 1) := by decide +kernel
theorem dX1_eatHere_43 : decode cX1_eatHere 43 = .ok (.if_icmp .ne 18, 3) := by decide +kernel
theorem dX1_eatHere_46 : decode cX1_eatHere 46 = .ok (.aload_n 0, 1) := by decide +kernel
theorem dX1_eatHere_47 : decode cX1_eatHere 47 = .ok (.iconst 1, 1) := by decide +kernel
theorem dX1_eatHere_48 : decode cX1_eatHere 48 = .ok (.putfield 77, 3) := by decide +kernel
theorem dX1_eatHere_51 : decode cX1_eatHere 51 = .ok (.aload_n 0, 1) := by decide +kernel
theorem dX1_eatHere_52 : decode cX1_eatHere 52 = .ok (.bipush 50, 2) := by decide +kernel
theorem dX1_eatHere_54 : decode cX1_eatHere 54 = .ok (.invokevirtual 143, 3) := by decide +kernel
theorem dX1_eatHere_57 : decode cX1_eatHere 57 = .ok (.aload_n 0, 1) := by decide +kernel
theorem dX1_eatHere_58 : decode cX1_eatHere 58 = .ok (.invokevirtual 146, 3) := by decide +kernel
theorem dX1_eatHere_61 : decode cX1_eatHere 61 = .ok (.return_, 1) := by decide +kernel
theorem dX1_addPoints_0 : decode cX1_addPoints 0 = .ok (.aload_n 0, 1) := by decide +kernel
theorem dX1_addPoints_1 : decode cX1_addPoints 1 = .ok (.dup, 1) := by decide +kernel
theorem dX1_addPoints_2 : decode cX1_addPoints 2 = .ok (.getfield 46, 3) := by decide +kernel
theorem dX1_addPoints_5 : decode cX1_addPoints 5 = .ok (.iload_n 1, 1) := by decide +kernel
theorem dX1_addPoints_6 : decode cX1_addPoints 6 = .ok (.iadd, 1) := by decide +kernel
theorem dX1_addPoints_7 : decode cX1_addPoints 7 = .ok (.putfield 46, 3) := by decide +kernel
theorem dX1_addPoints_10 : decode cX1_addPoints 10 = .ok (.aload_n 0, 1) := by decide +kernel
theorem dX1_addPoints_11 : decode cX1_addPoints 11 = .ok (.aload_n 0, 1) := by decide +kernel
theorem dX1_addPoints_12 : decode cX1_addPoints 12 = .ok (.getfield 149, 3) := by decide +kernel
theorem dX1_addPoints_15 : decode cX1_addPoints 15 = .ok (.aload_n 0, 1) := by decide +kernel
theorem dX1_addPoints_16 : decode cX1_addPoints 16 = .ok (.getfield 46, 3) := by decide +kernel
theorem dX1_addPoints_19 : decode cX1_addPoints 19 = .ok (.invokestatic 152, 3) := by decide +kernel
theorem dX1_addPoints_22 : decode cX1_addPoints 22 = .ok (.putfield 149, 3) := by decide +kernel
theorem dX1_addPoints_25 : decode cX1_addPoints 25 = .ok (.aload_n 0, 1) := by decide +kernel
theorem dX1_addPoints_26 : decode cX1_addPoints 26 = .ok (.getfield 46, 3) := by decide +kernel
theorem dX1_addPoints_29 : decode cX1_addPoints 29 = .ok (.sipush 3000, 3) := by decide +kernel
theorem dX1_addPoints_32 : decode cX1_addPoints 32 = .ok (.if_icmp .lt 25, 3) := by decide +kernel
theorem dX1_addPoints_35 : decode cX1_addPoints 35 = .ok (.aload_n 0, 1) := by decide +kernel
theorem dX1_addPoints_36 : decode cX1_addPoints 36 = .ok (.getfield 52, 3) := by decide +kernel
theorem dX1_addPoints_39 : decode cX1_addPoints 39 = .ok (.ifCond .ne 18, 3) := by decide +kernel
theorem dX1_addPoints_42 : decode cX1_addPoints 42 = .ok (.aload_n 0, 1) := by decide +kernel
theorem dX1_addPoints_43 : decode cX1_addPoints 43 = .ok (.iconst 1, 1) := by decide +kernel
theorem dX1_addPoints_44 : decode cX1_addPoints 44 = .ok (.putfield 52, 3) := by decide +kernel
theorem dX1_addPoints_47 : decode cX1_addPoints 47 = .ok (.aload_n 0, 1) := by decide +kernel
theorem dX1_addPoints_48 : decode cX1_addPoints 48 = .ok (.dup, 1) := by decide +kernel
theorem dX1_addPoints_49 : decode cX1_addPoints 49 = .ok (.getfield 36, 3) := by decide +kernel
theorem dX1_addPoints_52 : decode cX1_addPoints 52 = .ok (.iconst 1, 1) := by decide +kernel
theorem dX1_addPoints_53 : decode cX1_addPoints 53 = .ok (.iadd, 1) := by decide +kernel
theorem dX1_addPoints_54 : decode cX1_addPoints 54 = .ok (.putfield 36, 3) := by decide +kernel
theorem dX1_addPoints_57 : decode cX1_addPoints 57 = .ok (.return_, 1) := by decide +kernel
theorem dX1_frightenHunters_0 : decode cX1_frightenHunters 0 = .ok (.aload_n 0, 1) := by decide +kernel
theorem dX1_frightenHunters_1 : decode cX1_frightenHunters 1 = .ok (.bipush 100, 2) := by decide +kernel
theorem dX1_frightenHunters_3 : decode cX1_frightenHunters 3 = .ok (.bipush 15, 2) := by decide +kernel
theorem dX1_frightenHunters_5 : decode cX1_frightenHunters 5 = .ok (.aload_n 0, 1) := by decide +kernel
theorem dX1_frightenHunters_6 : decode cX1_frightenHunters 6 = .ok (.getfield 40, 3) := by decide +kernel
theorem dX1_frightenHunters_9 : decode cX1_frightenHunters 9 = .ok (.imul, 1) := by decide +kernel
theorem dX1_frightenHunters_10 : decode cX1_frightenHunters 10 = .ok (.isub, 1) := by decide +kernel
theorem dX1_frightenHunters_11 : decode cX1_frightenHunters 11 = .ok (.bipush 10, 2) := by decide +kernel
theorem dX1_frightenHunters_13 : decode cX1_frightenHunters 13 = .ok (.invokestatic 152, 3) := by decide +kernel
theorem dX1_frightenHunters_16 : decode cX1_frightenHunters 16 = .ok (.putfield 68, 3) := by decide +kernel
theorem dX1_frightenHunters_19 : decode cX1_frightenHunters 19 = .ok (.aload_n 0, 1) := by decide +kernel
theorem dX1_frightenHunters_20 : decode cX1_frightenHunters 20 = .ok (.iconst 0, 1) := by decide +kernel
theorem dX1_frightenHunters_21 : decode cX1_frightenHunters 21 = .ok (.putfield 49, 3) := by decide +kernel
theorem dX1_frightenHunters_24 : decode cX1_frightenHunters 24 = .ok (.iconst 1, 1) := by decide +kernel
theorem dX1_frightenHunters_25 : decode cX1_frightenHunters 25 = .ok (.istore_n 1, 1) := by decide +kernel
theorem dX1_frightenHunters_26 : decode cX1_frightenHunters 26 = .ok (.iload_n 1, 1) := by decide +kernel
theorem dX1_frightenHunters_27 : decode cX1_frightenHunters 27 = .ok (.iconst 5, 1) := by decide +kernel
theorem dX1_frightenHunters_28 : decode cX1_frightenHunters 28 = .ok (.if_icmp .ge 41, 3) := by decide +kernel
theorem dX1_frightenHunters_31 : decode cX1_frightenHunters 31 = .ok (.aload_n 0, 1) := by decide +kernel
theorem dX1_frightenHunters_32 : decode cX1_frightenHunters 32 = .ok (.getfield 20, 3) := by decide +kernel
theorem dX1_frightenHunters_35 : decode cX1_frightenHunters 35 = .ok (.iload_n 1, 1) := by decide +kernel
theorem dX1_frightenHunters_36 : decode cX1_frightenHunters 36 = .ok (.aaload, 1) := by decide +kernel
theorem dX1_frightenHunters_37 : decode cX1_frightenHunters 37 = .ok (.getfield 155, 3) := by decide +kernel
theorem dX1_frightenHunters_40 : decode cX1_frightenHunters 40 = .ok (.ifCond .ne 23, 3) := by decide +kernel
theorem dX1_frightenHunters_43 : decode cX1_frightenHunters 43 = .ok (.aload_n 0, 1) := by decide +kernel
theorem dX1_frightenHunters_44 : decode cX1_frightenHunters 44 = .ok (.getfield 20, 3) := by decide +kernel
theorem dX1_frightenHunters_47 : decode cX1_frightenHunters 47 = .ok (.iload_n 1, 1) := by decide +kernel
theorem dX1_frightenHunters_48 : decode cX1_frightenHunters 48 = .ok (.aaload, 1) := by decide +kernel
theorem dX1_frightenHunters_49 : decode cX1_frightenHunters 49 = .ok (.iconst 1, 1) := by decide +kernel
theorem dX1_frightenHunters_50 : decode cX1_frightenHunters 50 = .ok (.putfield 106, 3) := by decide +kernel
theorem dX1_frightenHunters_53 : decode cX1_frightenHunters 53 = .ok (.aload_n 0, 1) := by decide +kernel
theorem dX1_frightenHunters_54 : decode cX1_frightenHunters 54 = .ok (.aload_n 0, 1) := by decide +kernel
theorem dX1_frightenHunters_55 : decode cX1_frightenHunters 55 = .ok (.getfield 20, 3) := by decide +kernel
theorem dX1_frightenHunters_58 : decode cX1_frightenHunters 58 = .ok (.iload_n 1, 1) := by decide +kernel
theorem dX1_frightenHunters_59 : decode cX1_frightenHunters 59 = .ok (.aaload, 1) := by decide +kernel
theorem dX1_frightenHunters_60 : decode cX1_frightenHunters 60 = .ok (.invokevirtual 158, 3) := by decide +kernel
theorem dX1_frightenHunters_63 : decode cX1_frightenHunters 63 = .ok (.iinc 1 1, 3) := by decide +kernel
theorem dX1_frightenHunters_66 : decode cX1_frightenHunters 66 = .ok (.goto (-40), 3) := by decide +kernel
theorem dX1_frightenHunters_69 : decode cX1_frightenHunters 69 = .ok (.return_, 1) := by decide +kernel
theorem dX1_turnAbout_0 : decode cX1_turnAbout 0 = .ok (.aload_n 1, 1) := by decide +kernel
theorem dX1_turnAbout_1 : decode cX1_turnAbout 1 = .ok (.getfield 116, 3) := by decide +kernel
theorem dX1_turnAbout_4 : decode cX1_turnAbout 4 = .ok (.invokestatic 162, 3) := by decide +kernel
theorem dX1_turnAbout_7 : decode cX1_turnAbout 7 = .ok (.istore_n 2, 1) := by decide +kernel
theorem dX1_turnAbout_8 : decode cX1_turnAbout 8 = .ok (.aload_n 1, 1) := by decide +kernel
theorem dX1_turnAbout_9 : decode cX1_turnAbout 9 = .ok (.getfield 109, 3) := by decide +kernel
theorem dX1_turnAbout_12 : decode cX1_turnAbout 12 = .ok (.fconst 0, 1) := by decide +kernel
theorem dX1_turnAbout_13 : decode cX1_turnAbout 13 = .ok (.fcmp .l, 1) := by decide +kernel
theorem dX1_turnAbout_14 : decode cX1_turnAbout 14 = .ok (.ifCond .eq 25, 3) := by decide +kernel
theorem dX1_turnAbout_17 : decode cX1_turnAbout 17 = .ok (.aload_n 1, 1) := by decide +kernel
theorem dX1_turnAbout_18 : decode cX1_turnAbout 18 = .ok (.invokevirtual 131, 3) := by decide +kernel
theorem dX1_turnAbout_21 : decode cX1_turnAbout 21 = .ok (.aload_n 1, 1) := by decide +kernel
theorem dX1_turnAbout_22 : decode cX1_turnAbout 22 = .ok (.iload_n 2, 1) := by decide +kernel
theorem dX1_turnAbout_23 : decode cX1_turnAbout 23 = .ok (.putfield 116, 3) := by decide +kernel
theorem dX1_turnAbout_26 : decode cX1_turnAbout 26 = .ok (.aload_n 1, 1) := by decide +kernel
theorem dX1_turnAbout_27 : decode cX1_turnAbout 27 = .ok (.fconst 1, 1) := by decide +kernel
theorem dX1_turnAbout_28 : decode cX1_turnAbout 28 = .ok (.aload_n 1, 1) := by decide +kernel
theorem dX1_turnAbout_29 : decode cX1_turnAbout 29 = .ok (.getfield 109, 3) := by decide +kernel
theorem dX1_turnAbout_32 : decode cX1_turnAbout 32 = .ok (.fsub, 1) := by decide +kernel
theorem dX1_turnAbout_33 : decode cX1_turnAbout 33 = .ok (.putfield 109, 3) := by decide +kernel
theorem dX1_turnAbout_36 : decode cX1_turnAbout 36 = .ok (.goto 20, 3) := by decide +kernel
theorem dX1_turnAbout_39 : decode cX1_turnAbout 39 = .ok (.aload_n 0, 1) := by decide +kernel
theorem dX1_turnAbout_40 : decode cX1_turnAbout 40 = .ok (.getfield 12, 3) := by decide +kernel
theorem dX1_turnAbout_43 : decode cX1_turnAbout 43 = .ok (.aload_n 1, 1) := by decide +kernel
theorem dX1_turnAbout_44 : decode cX1_turnAbout 44 = .ok (.iload_n 2, 1) := by decide +kernel
theorem dX1_turnAbout_45 : decode cX1_turnAbout 45 = .ok (.invokevirtual 119, 3) := by decide +kernel
theorem dX1_turnAbout_48 : decode cX1_turnAbout 48 = .ok (.ifCond .eq 8, 3) := by decide +kernel
theorem dX1_turnAbout_51 : decode cX1_turnAbout 51 = .ok (.aload_n 1, 1) := by decide +kernel
theorem dX1_turnAbout_52 : decode cX1_turnAbout 52 = .ok (.iload_n 2, 1) := by decide +kernel
theorem dX1_turnAbout_53 : decode cX1_turnAbout 53 = .ok (.putfield 116, 3) := by decide +kernel
theorem dX1_turnAbout_56 : decode cX1_turnAbout 56 = .ok (.return_, 1) := by decide +kernel
theorem dX1_moveHunter_0 : decode cX1_moveHunter 0 = .ok (.aload_n 0, 1) := by decide +kernel
theorem dX1_moveHunter_1 : decode cX1_moveHunter 1 = .ok (.getfield 20, 3) := by decide +kernel
theorem dX1_moveHunter_4 : decode cX1_moveHunter 4 = .ok (.iload_n 1, 1) := by decide +kernel
theorem dX1_moveHunter_5 : decode cX1_moveHunter 5 = .ok (.aaload, 1) := by decide +kernel
theorem dX1_moveHunter_6 : decode cX1_moveHunter 6 = .ok (.astore_n 2, 1) := by decide +kernel
theorem dX1_moveHunter_7 : decode cX1_moveHunter 7 = .ok (.aload_n 2, 1) := by decide +kernel
theorem dX1_moveHunter_8 : decode cX1_moveHunter 8 = .ok (.getfield 166, 3) := by decide +kernel
theorem dX1_moveHunter_11 : decode cX1_moveHunter 11 = .ok (.ifCond .le 27, 3) := by decide +kernel
theorem dX1_moveHunter_14 : decode cX1_moveHunter 14 = .ok (.aload_n 2, 1) := by decide +kernel
theorem dX1_moveHunter_15 : decode cX1_moveHunter 15 = .ok (.dup, 1) := by decide +kernel
theorem dX1_moveHunter_16 : decode cX1_moveHunter 16 = .ok (.getfield 166, 3) := by decide +kernel
theorem dX1_moveHunter_19 : decode cX1_moveHunter 19 = .ok (.iconst 1, 1) := by decide +kernel
theorem dX1_moveHunter_20 : decode cX1_moveHunter 20 = .ok (.isub, 1) := by decide +kernel
theorem dX1_moveHunter_21 : decode cX1_moveHunter 21 = .ok (.putfield 166, 3) := by decide +kernel
theorem dX1_moveHunter_24 : decode cX1_moveHunter 24 = .ok (.aload_n 2, 1) := by decide +kernel
theorem dX1_moveHunter_25 : decode cX1_moveHunter 25 = .ok (.getfield 166, 3) := by decide +kernel
theorem dX1_moveHunter_28 : decode cX1_moveHunter 28 = .ok (.ifCond .ne 9, 3) := by decide +kernel
theorem dX1_moveHunter_31 : decode cX1_moveHunter 31 = .ok (.aload_n 0, 1) := by decide +kernel
theorem dX1_moveHunter_32 : decode cX1_moveHunter 32 = .ok (.aload_n 2, 1) := by decide +kernel
theorem dX1_moveHunter_33 : decode cX1_moveHunter 33 = .ok (.iload_n 1, 1) := by decide +kernel
theorem dX1_moveHunter_34 : decode cX1_moveHunter 34 = .ok (.invokevirtual 169, 3) := by decide +kernel
theorem dX1_moveHunter_37 : decode cX1_moveHunter 37 = .ok (.return_, 1) := by decide +kernel
theorem dX1_moveHunter_38 : decode cX1_moveHunter 38 = .ok (.ldc 173, 2) := by decide +kernel
theorem dX1_moveHunter_40 : decode cX1_moveHunter 40 = .ok (.fconst 1, 1) := by decide +kernel
theorem dX1_moveHunter_41 : decode cX1_moveHunter 41 = .ok (.ldc 174, 2) := by decide +kernel
theorem dX1_moveHunter_43 : decode cX1_moveHunter 43 = .ok (.aload_n 0, 1) := by decide +kernel
theorem dX1_moveHunter_44 : decode cX1_moveHunter 44 = .ok (.getfield 40, 3) := by decide +kernel
theorem dX1_moveHunter_47 : decode cX1_moveHunter 47 = .ok (.iconst 5, 1) := by decide +kernel
theorem dX1_moveHunter_48 : decode cX1_moveHunter 48 = .ok (.invokestatic 125, 3) := by decide +kernel
theorem dX1_moveHunter_51 : decode cX1_moveHunter 51 = .ok (.i2f, 1) := by decide +kernel
theorem dX1_moveHunter_52 : decode cX1_moveHunter 52 = .ok (.fmul, 1) := by decide +kernel
theorem dX1_moveHunter_53 : decode cX1_moveHunter 53 = .ok (.fadd, 1) := by decide +kernel
theorem dX1_moveHunter_54 : decode cX1_moveHunter 54 = .ok (.fmul, 1) := by decide +kernel
theorem dX1_moveHunter_55 : decode cX1_moveHunter 55 = .ok (.fstore_n 3, 1) := by decide +kernel
theorem dX1_moveHunter_56 : decode cX1_moveHunter 56 = .ok (.aload_n 2, 1) := by decide +kernel
theorem dX1_moveHunter_57 : decode cX1_moveHunter 57 = .ok (.aload_n 2, 1) := by decide +kernel
theorem dX1_moveHunter_58 : decode cX1_moveHunter 58 = .ok (.getfield 109, 3) := by decide +kernel
theorem dX1_moveHunter_61 : decode cX1_moveHunter 61 = .ok (.aload_n 2, 1) := by decide +kernel
theorem dX1_moveHunter_62 : decode cX1_moveHunter 62 = .ok (.getfield 106, 3) := by decide +kernel
theorem dX1_moveHunter_65 : decode cX1_moveHunter 65 = .ok (.ifCond .eq 9, 3) := by decide +kernel
theorem dX1_moveHunter_68 : decode cX1_moveHunter 68 = .ok (.fload_n 3, 1) := by decide +kernel
theorem dX1_moveHunter_69 : decode cX1_moveHunter 69 = .ok (.fconst 2, 1) := by decide +kernel
theorem dX1_moveHunter_70 : decode cX1_moveHunter 70 = .ok (.fdiv, 1) := by decide +kernel
theorem dX1_moveHunter_71 : decode cX1_moveHunter 71 = .ok (.goto 4, 3) := by decide +kernel
theorem dX1_moveHunter_74 : decode cX1_moveHunter 74 = .ok (.fload_n 3, 1) := by decide +kernel
theorem dX1_moveHunter_75 : decode cX1_moveHunter 75 = .ok (.fadd, 1) := by decide +kernel
theorem dX1_moveHunter_76 : decode cX1_moveHunter 76 = .ok (.putfield 109, 3) := by decide +kernel
theorem dX1_moveHunter_79 : decode cX1_moveHunter 79 = .ok (.aload_n 2, 1) := by decide +kernel
theorem dX1_moveHunter_80 : decode cX1_moveHunter 80 = .ok (.getfield 109, 3) := by decide +kernel
theorem dX1_moveHunter_83 : decode cX1_moveHunter 83 = .ok (.fconst 1, 1) := by decide +kernel
theorem dX1_moveHunter_84 : decode cX1_moveHunter 84 = .ok (.fcmp .g, 1) := by decide +kernel
theorem dX1_moveHunter_85 : decode cX1_moveHunter 85 = .ok (.ifCond .ge 4, 3) := by decide +kernel
theorem dX1_moveHunter_88 : decode cX1_moveHunter 88 = .ok (.return_, 1) := by decide +kernel
theorem dX1_moveHunter_89 : decode cX1_moveHunter 89 = .ok (.aload_n 2, 1) := by decide +kernel
theorem dX1_moveHunter_90 : decode cX1_moveHunter 90 = .ok (.invokevirtual 131, 3) := by decide +kernel
theorem dX1_moveHunter_93 : decode cX1_moveHunter 93 = .ok (.aload_n 2, 1) := by decide +kernel
theorem dX1_moveHunter_94 : decode cX1_moveHunter 94 = .ok (.aload_n 2, 1) := by decide +kernel
theorem dX1_moveHunter_95 : decode cX1_moveHunter 95 = .ok (.getfield 109, 3) := by decide +kernel
theorem dX1_moveHunter_98 : decode cX1_moveHunter 98 = .ok (.fconst 1, 1) := by decide +kernel
theorem dX1_moveHunter_99 : decode cX1_moveHunter 99 = .ok (.fsub, 1) := by decide +kernel
theorem dX1_moveHunter_100 : decode cX1_moveHunter 100 = .ok (.putfield 109, 3) := by decide +kernel
theorem dX1_moveHunter_103 : decode cX1_moveHunter 103 = .ok (.aload_n 2, 1) := by decide +kernel
theorem dX1_moveHunter_104 : decode cX1_moveHunter 104 = .ok (.bipush 6, 2) := by decide +kernel
theorem dX1_moveHunter_106 : decode cX1_moveHunter 106 = .ok (.iconst 2, 1) := by decide +kernel
theorem dX1_moveHunter_107 : decode cX1_moveHunter 107 = .ok (.invokevirtual 175, 3) := by decide +kernel
theorem dX1_moveHunter_110 : decode cX1_moveHunter 110 = .ok (.ifCond .eq 8, 3) := by decide +kernel
theorem dX1_moveHunter_113 : decode cX1_moveHunter 113 = .ok (.aload_n 2, 1) := by decide +kernel
theorem dX1_moveHunter_114 : decode cX1_moveHunter 114 = .ok (.iconst 0, 1) := by decide +kernel
theorem dX1_moveHunter_115 : decode cX1_moveHunter 115 = .ok (.putfield 155, 3) := by decide +kernel
theorem dX1_moveHunter_118 : decode cX1_moveHunter 118 = .ok (.aload_n 0, 1) := by decide +kernel
theorem dX1_moveHunter_119 : decode cX1_moveHunter 119 = .ok (.aload_n 2, 1) := by decide +kernel
theorem dX1_moveHunter_120 : decode cX1_moveHunter 120 = .ok (.iload_n 1, 1) := by decide +kernel
theorem dX1_moveHunter_121 : decode cX1_moveHunter 121 = .ok (.invokevirtual 169, 3) := by decide +kernel
theorem dX1_moveHunter_124 : decode cX1_moveHunter 124 = .ok (.return_, 1) := by decide +kernel
theorem dX1_chooseDirection_0 : decode cX1_chooseDirection 0 = .ok (.aload_n 1, 1) := by decide +kernel
theorem dX1_chooseDirection_1 : decode cX1_chooseDirection 1 = .ok (.getfield 106, 3) := by decide +kernel
theorem dX1_chooseDirection_4 : decode cX1_chooseDirection 4 = .ok (.ifCond .eq 19, 3) := by decide +kernel
theorem dX1_chooseDirection_7 : decode cX1_chooseDirection 7 = .ok (.aload_n 1, 1) := by decide +kernel
theorem dX1_chooseDirection_8 : decode cX1_chooseDirection 8 = .ok (.aload_n 0, 1) := by decide +kernel
theorem dX1_chooseDirection_9 : decode cX1_chooseDirection 9 = .ok (.aload_n 0, 1) := by decide +kernel
theorem dX1_chooseDirection_10 : decode cX1_chooseDirection 10 = .ok (.invokevirtual 179, 3) := by decide +kernel
theorem dX1_chooseDirection_13 : decode cX1_chooseDirection 13 = .ok (.aload_n 1, 1) := by decide +kernel
theorem dX1_chooseDirection_14 : decode cX1_chooseDirection 14 = .ok (.invokevirtual 183, 3) := by decide +kernel
theorem dX1_chooseDirection_17 : decode cX1_chooseDirection 17 = .ok (.putfield 116, 3) := by decide +kernel
theorem dX1_chooseDirection_20 : decode cX1_chooseDirection 20 = .ok (.goto 18, 3) := by decide +kernel
theorem dX1_chooseDirection_23 : decode cX1_chooseDirection 23 = .ok (.aload_n 0, 1) := by decide +kernel
theorem dX1_chooseDirection_24 : decode cX1_chooseDirection 24 = .ok (.aload_n 1, 1) := by decide +kernel
theorem dX1_chooseDirection_25 : decode cX1_chooseDirection 25 = .ok (.iload_n 2, 1) := by decide +kernel
theorem dX1_chooseDirection_26 : decode cX1_chooseDirection 26 = .ok (.invokevirtual 187, 3) := by decide +kernel
theorem dX1_chooseDirection_29 : decode cX1_chooseDirection 29 = .ok (.aload_n 1, 1) := by decide +kernel
theorem dX1_chooseDirection_30 : decode cX1_chooseDirection 30 = .ok (.aload_n 0, 1) := by decide +kernel
theorem dX1_chooseDirection_31 : decode cX1_chooseDirection 31 = .ok (.aload_n 1, 1) := by decide +kernel
theorem dX1_chooseDirection_32 : decode cX1_chooseDirection 32 = .ok (.invokevirtual 190, 3) := by decide +kernel
theorem dX1_chooseDirection_35 : decode cX1_chooseDirection 35 = .ok (.putfield 116, 3) := by decide +kernel
theorem dX1_chooseDirection_38 : decode cX1_chooseDirection 38 = .ok (.return_, 1) := by decide +kernel
theorem dX1_drawNumber_0 : decode cX1_drawNumber 0 = .ok (.aload_n 0, 1) := by decide +kernel
theorem dX1_drawNumber_1 : decode cX1_drawNumber 1 = .ok (.aload_n 0, 1) := by decide +kernel
theorem dX1_drawNumber_2 : decode cX1_drawNumber 2 = .ok (.getfield 55, 3) := by decide +kernel
theorem dX1_drawNumber_5 : decode cX1_drawNumber 5 = .ok (.ldc 194, 2) := by decide +kernel
theorem dX1_drawNumber_7 : decode cX1_drawNumber 7 = .ok (.imul, 1) := by decide +kernel
theorem dX1_drawNumber_8 : decode cX1_drawNumber 8 = .ok (.sipush 12345, 3) := by decide +kernel
theorem dX1_drawNumber_11 : decode cX1_drawNumber 11 = .ok (.iadd, 1) := by decide +kernel
theorem dX1_drawNumber_12 : decode cX1_drawNumber 12 = .ok (.putfield 55, 3) := by decide +kernel
theorem dX1_drawNumber_15 : decode cX1_drawNumber 15 = .ok (.aload_n 0, 1) := by decide +kernel
theorem dX1_drawNumber_16 : decode cX1_drawNumber 16 = .ok (.getfield 55, 3) := by decide +kernel
theorem dX1_drawNumber_19 : decode cX1_drawNumber 19 = .ok (.bipush 16, 2) := by decide +kernel
theorem dX1_drawNumber_21 : decode cX1_drawNumber 21 = .ok (.ishr, 1) := by decide +kernel
theorem dX1_drawNumber_22 : decode cX1_drawNumber 22 = .ok (.iconst 3, 1) := by decide +kernel
theorem dX1_drawNumber_23 : decode cX1_drawNumber 23 = .ok (.iand, 1) := by decide +kernel
theorem dX1_drawNumber_24 : decode cX1_drawNumber 24 = .ok (.ireturn, 1) := by decide +kernel
theorem dX1_firstOpenFrom_0 : decode cX1_firstOpenFrom 0 = .ok (.aload_n 2, 1) := by decide +kernel
theorem dX1_firstOpenFrom_1 : decode cX1_firstOpenFrom 1 = .ok (.getfield 116, 3) := by decide +kernel
theorem dX1_firstOpenFrom_4 : decode cX1_firstOpenFrom 4 = .ok (.invokestatic 162, 3) := by decide +kernel
theorem dX1_firstOpenFrom_7 : decode cX1_firstOpenFrom 7 = .ok (.istore_n 3, 1) := by decide +kernel
theorem dX1_firstOpenFrom_8 : decode cX1_firstOpenFrom 8 = .ok (.iconst 0, 1) := by decide +kernel
theorem dX1_firstOpenFrom_9 : decode cX1_firstOpenFrom 9 = .ok (.istore 4, 2) := by decide +kernel
theorem dX1_firstOpenFrom_11 : decode cX1_firstOpenFrom 11 = .ok (.iload 4, 2) := by decide +kernel
theorem dX1_firstOpenFrom_13 : decode cX1_firstOpenFrom 13 = .ok (.iconst 4, 1) := by decide +kernel
theorem dX1_firstOpenFrom_14 : decode cX1_firstOpenFrom 14 = .ok (.if_icmp .ge 39, 3) := by decide +kernel
theorem dX1_firstOpenFrom_17 : decode cX1_firstOpenFrom 17 = .ok (.iload_n 1, 1) := by decide +kernel
theorem dX1_firstOpenFrom_18 : decode cX1_firstOpenFrom 18 = .ok (.iload 4, 2) := by decide +kernel
theorem dX1_firstOpenFrom_20 : decode cX1_firstOpenFrom 20 = .ok (.iadd, 1) := by decide +kernel
theorem dX1_firstOpenFrom_21 : decode cX1_firstOpenFrom 21 = .ok (.iconst 4, 1) := by decide +kernel
theorem dX1_firstOpenFrom_22 : decode cX1_firstOpenFrom 22 = .ok (.irem, 1) := by decide +kernel
theorem dX1_firstOpenFrom_23 : decode cX1_firstOpenFrom 23 = .ok (.istore 5, 2) := by decide +kernel
theorem dX1_firstOpenFrom_25 : decode cX1_firstOpenFrom 25 = .ok (.iload 5, 2) := by decide +kernel
theorem dX1_firstOpenFrom_27 : decode cX1_firstOpenFrom 27 = .ok (.iload_n 3, 1) := by decide +kernel
theorem dX1_firstOpenFrom_28 : decode cX1_firstOpenFrom 28 = .ok (.if_icmp .eq 19, 3) := by decide +kernel
theorem dX1_firstOpenFrom_31 : decode cX1_firstOpenFrom 31 = .ok (.aload_n 0, 1) := by decide +kernel
theorem dX1_firstOpenFrom_32 : decode cX1_firstOpenFrom 32 = .ok (.getfield 12, 3) := by decide +kernel
theorem dX1_firstOpenFrom_35 : decode cX1_firstOpenFrom 35 = .ok (.aload_n 2, 1) := by decide +kernel
theorem dX1_firstOpenFrom_36 : decode cX1_firstOpenFrom 36 = .ok (.iload 5, 2) := by decide +kernel
theorem dX1_firstOpenFrom_38 : decode cX1_firstOpenFrom 38 = .ok (.invokevirtual 119, 3) := by decide +kernel
theorem dX1_firstOpenFrom_41 : decode cX1_firstOpenFrom 41 = .ok (.ifCond .eq 6, 3) := by decide +kernel
theorem dX1_firstOpenFrom_44 : decode cX1_firstOpenFrom 44 = .ok (.iload 5, 2) := by decide +kernel
theorem dX1_firstOpenFrom_46 : decode cX1_firstOpenFrom 46 = .ok (.ireturn, 1) := by decide +kernel
theorem dX1_firstOpenFrom_47 : decode cX1_firstOpenFrom 47 = .ok (.iinc 4 1, 3) := by decide +kernel
theorem dX1_firstOpenFrom_50 : decode cX1_firstOpenFrom 50 = .ok (.goto (-39), 3) := by decide +kernel
theorem dX1_firstOpenFrom_53 : decode cX1_firstOpenFrom 53 = .ok (.iload_n 3, 1) := by decide +kernel
theorem dX1_firstOpenFrom_54 : decode cX1_firstOpenFrom 54 = .ok (.ireturn, 1) := by decide +kernel
theorem dX1_nearestToAim_0 : decode cX1_nearestToAim 0 = .ok (.aload_n 1, 1) := by decide +kernel
theorem dX1_nearestToAim_1 : decode cX1_nearestToAim 1 = .ok (.getfield 116, 3) := by decide +kernel
theorem dX1_nearestToAim_4 : decode cX1_nearestToAim 4 = .ok (.invokestatic 162, 3) := by decide +kernel
theorem dX1_nearestToAim_7 : decode cX1_nearestToAim 7 = .ok (.istore_n 2, 1) := by decide +kernel
theorem dX1_nearestToAim_8 : decode cX1_nearestToAim 8 = .ok (.iload_n 2, 1) := by decide +kernel
theorem dX1_nearestToAim_9 : decode cX1_nearestToAim 9 = .ok (.istore_n 3, 1) := by decide +kernel
theorem dX1_nearestToAim_10 : decode cX1_nearestToAim 10 = .ok (.ldc 197, 2) := by decide +kernel
theorem dX1_nearestToAim_12 : decode cX1_nearestToAim 12 = .ok (.istore 4, 2) := by decide +kernel
theorem dX1_nearestToAim_14 : decode cX1_nearestToAim 14 = .ok (.iconst 0, 1) := by decide +kernel
theorem dX1_nearestToAim_15 : decode cX1_nearestToAim 15 = .ok (.istore 5, 2) := by decide +kernel
theorem dX1_nearestToAim_17 : decode cX1_nearestToAim 17 = .ok (.iload 5, 2) := by decide +kernel
theorem dX1_nearestToAim_19 : decode cX1_nearestToAim 19 = .ok (.iconst 4, 1) := by decide +kernel
theorem dX1_nearestToAim_20 : decode cX1_nearestToAim 20 = .ok (.if_icmp .ge 84, 3) := by decide +kernel
theorem dX1_nearestToAim_23 : decode cX1_nearestToAim 23 = .ok (.iload 5, 2) := by decide +kernel
theorem dX1_nearestToAim_25 : decode cX1_nearestToAim 25 = .ok (.iload_n 2, 1) := by decide +kernel
theorem dX1_nearestToAim_26 : decode cX1_nearestToAim 26 = .ok (.if_icmp .eq 72, 3) := by decide +kernel
theorem dX1_nearestToAim_29 : decode cX1_nearestToAim 29 = .ok (.aload_n 0, 1) := by decide +kernel
theorem dX1_nearestToAim_30 : decode cX1_nearestToAim 30 = .ok (.getfield 12, 3) := by decide +kernel
theorem dX1_nearestToAim_33 : decode cX1_nearestToAim 33 = .ok (.aload_n 1, 1) := by decide +kernel
theorem dX1_nearestToAim_34 : decode cX1_nearestToAim 34 = .ok (.iload 5, 2) := by decide +kernel
theorem dX1_nearestToAim_36 : decode cX1_nearestToAim 36 = .ok (.invokevirtual 119, 3) := by decide +kernel
theorem dX1_nearestToAim_39 : decode cX1_nearestToAim 39 = .ok (.ifCond .ne 6, 3) := by decide +kernel
theorem dX1_nearestToAim_42 : decode cX1_nearestToAim 42 = .ok (.goto 56, 3) := by decide +kernel
theorem dX1_nearestToAim_45 : decode cX1_nearestToAim 45 = .ok (.aload_n 1, 1) := by decide +kernel
theorem dX1_nearestToAim_46 : decode cX1_nearestToAim 46 = .ok (.getfield 134, 3) := by decide +kernel
theorem dX1_nearestToAim_49 : decode cX1_nearestToAim 49 = .ok (.iload 5, 2) := by decide +kernel
theorem dX1_nearestToAim_51 : decode cX1_nearestToAim 51 = .ok (.invokestatic 198, 3) := by decide +kernel
theorem dX1_nearestToAim_54 : decode cX1_nearestToAim 54 = .ok (.istore 6, 2) := by decide +kernel
theorem dX1_nearestToAim_56 : decode cX1_nearestToAim 56 = .ok (.aload_n 1, 1) := by decide +kernel
theorem dX1_nearestToAim_57 : decode cX1_nearestToAim 57 = .ok (.getfield 137, 3) := by decide +kernel
theorem dX1_nearestToAim_60 : decode cX1_nearestToAim 60 = .ok (.iload 5, 2) := by decide +kernel
theorem dX1_nearestToAim_62 : decode cX1_nearestToAim 62 = .ok (.invokestatic 201, 3) := by decide +kernel
theorem dX1_nearestToAim_65 : decode cX1_nearestToAim 65 = .ok (.istore 7, 2) := by decide +kernel
theorem dX1_nearestToAim_67 : decode cX1_nearestToAim 67 = .ok (.iload 6, 2) := by decide +kernel
theorem dX1_nearestToAim_69 : decode cX1_nearestToAim 69 = .ok (.iload 7, 2) := by decide +kernel
theorem dX1_nearestToAim_71 : decode cX1_nearestToAim 71 = .ok (.aload_n 1, 1) := by decide +kernel
theorem dX1_nearestToAim_72 : decode cX1_nearestToAim 72 = .ok (.getfield 204, 3) := by decide +kernel
theorem dX1_nearestToAim_75 : decode cX1_nearestToAim 75 = .ok (.aload_n 1, 1) := by decide +kernel
theorem dX1_nearestToAim_76 : decode cX1_nearestToAim 76 = .ok (.getfield 207, 3) := by decide +kernel
theorem dX1_nearestToAim_79 : decode cX1_nearestToAim 79 = .ok (.invokestatic 210, 3) := by decide +kernel
theorem dX1_nearestToAim_82 : decode cX1_nearestToAim 82 = .ok (.istore 8, 2) := by decide +kernel
theorem dX1_nearestToAim_84 : decode cX1_nearestToAim 84 = .ok (.iload 8, 2) := by decide +kernel
theorem dX1_nearestToAim_86 : decode cX1_nearestToAim 86 = .ok (.iload 4, 2) := by decide +kernel
theorem dX1_nearestToAim_88 : decode cX1_nearestToAim 88 = .ok (.if_icmp .ge 10, 3) := by decide +kernel
theorem dX1_nearestToAim_91 : decode cX1_nearestToAim 91 = .ok (.iload 8, 2) := by decide +kernel
theorem dX1_nearestToAim_93 : decode cX1_nearestToAim 93 = .ok (.istore 4, 2) := by decide +kernel
theorem dX1_nearestToAim_95 : decode cX1_nearestToAim 95 = .ok (.iload 5, 2) := by decide +kernel
theorem dX1_nearestToAim_97 : decode cX1_nearestToAim 97 = .ok (.istore_n 3, 1) := by decide +kernel
theorem dX1_nearestToAim_98 : decode cX1_nearestToAim 98 = .ok (.iinc 5 1, 3) := by decide +kernel
theorem dX1_nearestToAim_101 : decode cX1_nearestToAim 101 = .ok (.goto (-84), 3) := by decide +kernel
theorem dX1_nearestToAim_104 : decode cX1_nearestToAim 104 = .ok (.iload_n 3, 1) := by decide +kernel
theorem dX1_nearestToAim_105 : decode cX1_nearestToAim 105 = .ok (.ireturn, 1) := by decide +kernel
theorem dX1_setAim_0 : decode cX1_setAim 0 = .ok (.aload_n 1, 1) := by decide +kernel
theorem dX1_setAim_1 : decode cX1_setAim 1 = .ok (.getfield 155, 3) := by decide +kernel
theorem dX1_setAim_4 : decode cX1_setAim 4 = .ok (.ifCond .eq 13, 3) := by decide +kernel
theorem dX1_setAim_7 : decode cX1_setAim 7 = .ok (.aload_n 1, 1) := by decide +kernel
theorem dX1_setAim_8 : decode cX1_setAim 8 = .ok (.bipush 6, 2) := by decide +kernel
theorem dX1_setAim_10 : decode cX1_setAim 10 = .ok (.iconst 2, 1) := by decide +kernel
theorem dX1_setAim_11 : decode cX1_setAim 11 = .ok (.invokevirtual 214, 3) := by decide +kernel
theorem dX1_setAim_14 : decode cX1_setAim 14 = .ok (.goto 63, 3) := by decide +kernel
theorem dX1_setAim_17 : decode cX1_setAim 17 = .ok (.aload_n 0, 1) := by decide +kernel
theorem dX1_setAim_18 : decode cX1_setAim 18 = .ok (.invokevirtual 218, 3) := by decide +kernel
theorem dX1_setAim_21 : decode cX1_setAim 21 = .ok (.ifCond .ne 16, 3) := by decide +kernel
theorem dX1_setAim_24 : decode cX1_setAim 24 = .ok (.iload_n 2, 1) := by decide +kernel
theorem dX1_setAim_25 : decode cX1_setAim 25 = .ok (.iconst 4, 1) := by decide +kernel
theorem dX1_setAim_26 : decode cX1_setAim 26 = .ok (.if_icmp .ne 45, 3) := by decide +kernel
theorem dX1_setAim_29 : decode cX1_setAim 29 = .ok (.aload_n 0, 1) := by decide +kernel
theorem dX1_setAim_30 : decode cX1_setAim 30 = .ok (.aload_n 1, 1) := by decide +kernel
theorem dX1_setAim_31 : decode cX1_setAim 31 = .ok (.invokevirtual 222, 3) := by decide +kernel
theorem dX1_setAim_34 : decode cX1_setAim 34 = .ok (.ifCond .eq 37, 3) := by decide +kernel
theorem dX1_setAim_37 : decode cX1_setAim 37 = .ok (.aload_n 1, 1) := by decide +kernel
theorem dX1_setAim_38 : decode cX1_setAim 38 = .ok (.iload_n 2, 1) := by decide +kernel
theorem dX1_setAim_39 : decode cX1_setAim 39 = .ok (.iconst 1, 1) := by decide +kernel
theorem dX1_setAim_40 : decode cX1_setAim 40 = .ok (.if_icmp .eq 8, 3) := by decide +kernel
theorem dX1_setAim_43 : decode cX1_setAim 43 = .ok (.iload_n 2, 1) := by decide +kernel
theorem dX1_setAim_44 : decode cX1_setAim 44 = .ok (.iconst 3, 1) := by decide +kernel
theorem dX1_setAim_45 : decode cX1_setAim 45 = .ok (.if_icmp .ne 8, 3) := by decide +kernel
theorem dX1_setAim_48 : decode cX1_setAim 48 = .ok (.bipush 11, 2) := by decide +kernel
theorem dX1_setAim_50 : decode cX1_setAim 50 = .ok (.goto 4, 3) := by decide +kernel
theorem dX1_setAim_53 : decode cX1_setAim 53 = .ok (.iconst 1, 1) := by decide +kernel
theorem dX1_setAim_54 : decode cX1_setAim 54 = .ok (.iload_n 2, 1) := by decide +kernel
theorem dX1_setAim_55 : decode cX1_setAim 55 = .ok (.iconst 2, 1) := by decide +kernel
theorem dX1_setAim_56 : decode cX1_setAim 56 = .ok (.if_icmp .gt 7, 3) := by decide +kernel
theorem dX1_setAim_59 : decode cX1_setAim 59 = .ok (.iconst 1, 1) := by decide +kernel
theorem dX1_setAim_60 : decode cX1_setAim 60 = .ok (.goto 5, 3) := by decide +kernel
theorem dX1_setAim_63 : decode cX1_setAim 63 = .ok (.bipush 7, 2) := by decide +kernel
theorem dX1_setAim_65 : decode cX1_setAim 65 = .ok (.invokevirtual 214, 3) := by decide +kernel
theorem dX1_setAim_68 : decode cX1_setAim 68 = .ok (.goto 9, 3) := by decide +kernel
theorem dX1_setAim_71 : decode cX1_setAim 71 = .ok (.aload_n 0, 1) := by decide +kernel
theorem dX1_setAim_72 : decode cX1_setAim 72 = .ok (.aload_n 1, 1) := by decide +kernel
theorem dX1_setAim_73 : decode cX1_setAim 73 = .ok (.iload_n 2, 1) := by decide +kernel
theorem dX1_setAim_74 : decode cX1_setAim 74 = .ok (.invokevirtual 226, 3) := by decide +kernel
theorem dX1_setAim_77 : decode cX1_setAim 77 = .ok (.return_, 1) := by decide +kernel
theorem dX1_isNearPlayer_0 : decode cX1_isNearPlayer 0 = .ok (.aload_n 1, 1) := by decide +kernel
theorem dX1_isNearPlayer_1 : decode cX1_isNearPlayer 1 = .ok (.getfield 134, 3) := by decide +kernel
theorem dX1_isNearPlayer_4 : decode cX1_isNearPlayer 4 = .ok (.aload_n 1, 1) := by decide +kernel
theorem dX1_isNearPlayer_5 : decode cX1_isNearPlayer 5 = .ok (.getfield 137, 3) := by decide +kernel
theorem dX1_isNearPlayer_8 : decode cX1_isNearPlayer 8 = .ok (.aload_n 0, 1) := by decide +kernel
theorem dX1_isNearPlayer_9 : decode cX1_isNearPlayer 9 = .ok (.getfield 25, 3) := by decide +kernel
theorem dX1_isNearPlayer_12 : decode cX1_isNearPlayer 12 = .ok (.getfield 134, 3) := by decide +kernel
theorem dX1_isNearPlayer_15 : decode cX1_isNearPlayer 15 = .ok (.aload_n 0, 1) := by decide +kernel
theorem dX1_isNearPlayer_16 : decode cX1_isNearPlayer 16 = .ok (.getfield 25, 3) := by decide +kernel
theorem dX1_isNearPlayer_19 : decode cX1_isNearPlayer 19 = .ok (.getfield 137, 3) := by decide +kernel
theorem dX1_isNearPlayer_22 : decode cX1_isNearPlayer 22 = .ok (.invokestatic 210, 3) := by decide +kernel
theorem dX1_isNearPlayer_25 : decode cX1_isNearPlayer 25 = .ok (.bipush 9, 2) := by decide +kernel
theorem dX1_isNearPlayer_27 : decode cX1_isNearPlayer 27 = .ok (.if_icmp .ge 7, 3) := by decide +kernel
theorem dX1_isNearPlayer_30 : decode cX1_isNearPlayer 30 = .ok (.iconst 1, 1) := by decide +kernel
theorem dX1_isNearPlayer_31 : decode cX1_isNearPlayer 31 = .ok (.goto 4, 3) := by decide +kernel
theorem dX1_isNearPlayer_34 : decode cX1_isNearPlayer 34 = .ok (.iconst 0, 1) := by decide +kernel
theorem dX1_isNearPlayer_35 : decode cX1_isNearPlayer 35 = .ok (.ireturn, 1) := by decide +kernel
theorem dX1_aimAtPlayer_0 : decode cX1_aimAtPlayer 0 = .ok (.aload_n 0, 1) := by decide +kernel
theorem dX1_aimAtPlayer_1 : decode cX1_aimAtPlayer 1 = .ok (.getfield 25, 3) := by decide +kernel
theorem dX1_aimAtPlayer_4 : decode cX1_aimAtPlayer 4 = .ok (.getfield 116, 3) := by decide +kernel
theorem dX1_aimAtPlayer_7 : decode cX1_aimAtPlayer 7 = .ok (.invokestatic 229, 3) := by decide +kernel
theorem dX1_aimAtPlayer_10 : decode cX1_aimAtPlayer 10 = .ok (.istore_n 3, 1) := by decide +kernel
theorem dX1_aimAtPlayer_11 : decode cX1_aimAtPlayer 11 = .ok (.aload_n 0, 1) := by decide +kernel
theorem dX1_aimAtPlayer_12 : decode cX1_aimAtPlayer 12 = .ok (.getfield 25, 3) := by decide +kernel
theorem dX1_aimAtPlayer_15 : decode cX1_aimAtPlayer 15 = .ok (.getfield 116, 3) := by decide +kernel
theorem dX1_aimAtPlayer_18 : decode cX1_aimAtPlayer 18 = .ok (.invokestatic 232, 3) := by decide +kernel
theorem dX1_aimAtPlayer_21 : decode cX1_aimAtPlayer 21 = .ok (.istore 4, 2) := by decide +kernel
theorem dX1_aimAtPlayer_23 : decode cX1_aimAtPlayer 23 = .ok (.iload_n 2, 1) := by decide +kernel
theorem dX1_aimAtPlayer_24 : decode cX1_aimAtPlayer 24 = .ok (.iconst 2, 1) := by decide +kernel
theorem dX1_aimAtPlayer_25 : decode cX1_aimAtPlayer 25 = .ok (.if_icmp .ne 33, 3) := by decide +kernel
theorem dX1_aimAtPlayer_28 : decode cX1_aimAtPlayer 28 = .ok (.aload_n 1, 1) := by decide +kernel
theorem dX1_aimAtPlayer_29 : decode cX1_aimAtPlayer 29 = .ok (.aload_n 0, 1) := by decide +kernel
theorem dX1_aimAtPlayer_30 : decode cX1_aimAtPlayer 30 = .ok (.getfield 25, 3) := by decide +kernel
theorem dX1_aimAtPlayer_33 : decode cX1_aimAtPlayer 33 = .ok (.getfield 134, 3) := by decide +kernel
theorem dX1_aimAtPlayer_36 : decode cX1_aimAtPlayer 36 = .ok (.iconst 2, 1) := by decide +kernel
theorem dX1_aimAtPlayer_37 : decode cX1_aimAtPlayer 37 = .ok (.iload_n 3, 1) := by decide +kernel
theorem dX1_aimAtPlayer_38 : decode cX1_aimAtPlayer 38 = .ok (.imul, 1) := by decide +kernel
theorem dX1_aimAtPlayer_39 : decode cX1_aimAtPlayer 39 = .ok (.iadd, 1) := by decide +kernel
theorem dX1_aimAtPlayer_40 : decode cX1_aimAtPlayer 40 = .ok (.aload_n 0, 1) := by decide +kernel
theorem dX1_aimAtPlayer_41 : decode cX1_aimAtPlayer 41 = .ok (.getfield 25, 3) := by decide +kernel
theorem dX1_aimAtPlayer_44 : decode cX1_aimAtPlayer 44 = .ok (.getfield 137, 3) := by decide +kernel
theorem dX1_aimAtPlayer_47 : decode cX1_aimAtPlayer 47 = .ok (.iconst 2, 1) := by decide +kernel
theorem dX1_aimAtPlayer_48 : decode cX1_aimAtPlayer 48 = .ok (.iload 4, 2) := by decide +kernel
theorem dX1_aimAtPlayer_50 : decode cX1_aimAtPlayer 50 = .ok (.imul, 1) := by decide +kernel
theorem dX1_aimAtPlayer_51 : decode cX1_aimAtPlayer 51 = .ok (.iadd, 1) := by decide +kernel
theorem dX1_aimAtPlayer_52 : decode cX1_aimAtPlayer 52 = .ok (.invokevirtual 214, 3) := by decide +kernel
theorem dX1_aimAtPlayer_55 : decode cX1_aimAtPlayer 55 = .ok (.goto 76, 3) := by decide +kernel
theorem dX1_aimAtPlayer_58 : decode cX1_aimAtPlayer 58 = .ok (.iload_n 2, 1) := by decide +kernel
theorem dX1_aimAtPlayer_59 : decode cX1_aimAtPlayer 59 = .ok (.iconst 3, 1) := by decide +kernel
theorem dX1_aimAtPlayer_60 : decode cX1_aimAtPlayer 60 = .ok (.if_icmp .ne 53, 3) := by decide +kernel
theorem dX1_aimAtPlayer_63 : decode cX1_aimAtPlayer 63 = .ok (.aload_n 1, 1) := by decide +kernel
theorem dX1_aimAtPlayer_64 : decode cX1_aimAtPlayer 64 = .ok (.iconst 2, 1) := by decide +kernel
theorem dX1_aimAtPlayer_65 : decode cX1_aimAtPlayer 65 = .ok (.aload_n 0, 1) := by decide +kernel
theorem dX1_aimAtPlayer_66 : decode cX1_aimAtPlayer 66 = .ok (.getfield 25, 3) := by decide +kernel
theorem dX1_aimAtPlayer_69 : decode cX1_aimAtPlayer 69 = .ok (.getfield 134, 3) := by decide +kernel
theorem dX1_aimAtPlayer_72 : decode cX1_aimAtPlayer 72 = .ok (.iload_n 3, 1) := by decide +kernel
theorem dX1_aimAtPlayer_73 : decode cX1_aimAtPlayer 73 = .ok (.iadd, 1) := by decide +kernel
theorem dX1_aimAtPlayer_74 : decode cX1_aimAtPlayer 74 = .ok (.imul, 1) := by decide +kernel
theorem dX1_aimAtPlayer_75 : decode cX1_aimAtPlayer 75 = .ok (.aload_n 0, 1) := by decide +kernel
theorem dX1_aimAtPlayer_76 : decode cX1_aimAtPlayer 76 = .ok (.getfield 20, 3) := by decide +kernel
theorem dX1_aimAtPlayer_79 : decode cX1_aimAtPlayer 79 = .ok (.iconst 1, 1) := by decide +kernel
theorem dX1_aimAtPlayer_80 : decode cX1_aimAtPlayer 80 = .ok (.aaload, 1) := by decide +kernel
theorem dX1_aimAtPlayer_81 : decode cX1_aimAtPlayer 81 = .ok (.getfield 134, 3) := by decide +kernel
theorem dX1_aimAtPlayer_84 : decode cX1_aimAtPlayer 84 = .ok (.isub, 1) := by decide +kernel
theorem dX1_aimAtPlayer_85 : decode cX1_aimAtPlayer 85 = .ok (.iconst 2, 1) := by decide +kernel
theorem dX1_aimAtPlayer_86 : decode cX1_aimAtPlayer 86 = .ok (.aload_n 0, 1) := by decide +kernel
theorem dX1_aimAtPlayer_87 : decode cX1_aimAtPlayer 87 = .ok (.getfield 25, 3) := by decide +kernel
theorem dX1_aimAtPlayer_90 : decode cX1_aimAtPlayer 90 = .ok (.getfield 137, 3) := by decide +kernel
theorem dX1_aimAtPlayer_93 : decode cX1_aimAtPlayer 93 = .ok (.iload 4, 2) := by decide +kernel
theorem dX1_aimAtPlayer_95 : decode cX1_aimAtPlayer 95 = .ok (.iadd, 1) := by decide +kernel
theorem dX1_aimAtPlayer_96 : decode cX1_aimAtPlayer 96 = .ok (.imul, 1) := by decide +kernel
theorem dX1_aimAtPlayer_97 : decode cX1_aimAtPlayer 97 = .ok (.aload_n 0, 1) := by decide +kernel
theorem dX1_aimAtPlayer_98 : decode cX1_aimAtPlayer 98 = .ok (.getfield 20, 3) := by decide +kernel
theorem dX1_aimAtPlayer_101 : decode cX1_aimAtPlayer 101 = .ok (.iconst 1, 1) := by decide +kernel
theorem dX1_aimAtPlayer_102 : decode cX1_aimAtPlayer 102 = .ok (.aaload, 1) := by decide +kernel
theorem dX1_aimAtPlayer_103 : decode cX1_aimAtPlayer 103 = .ok (.getfield 137, 3) := by decide +kernel
theorem dX1_aimAtPlayer_106 : decode cX1_aimAtPlayer 106 = .ok (.isub, 1) := by decide +kernel
theorem dX1_aimAtPlayer_107 : decode cX1_aimAtPlayer 107 = .ok (.invokevirtual 214, 3) := by decide +kernel
theorem dX1_aimAtPlayer_110 : decode cX1_aimAtPlayer 110 = .ok (.goto 21, 3) := by decide +kernel
theorem dX1_aimAtPlayer_113 : decode cX1_aimAtPlayer 113 = .ok (.aload_n 1, 1) := by decide +kernel
theorem dX1_aimAtPlayer_114 : decode cX1_aimAtPlayer 114 = .ok (.aload_n 0, 1) := by decide +kernel
theorem dX1_aimAtPlayer_115 : decode cX1_aimAtPlayer 115 = .ok (.getfield 25, 3) := by decide +kernel
theorem dX1_aimAtPlayer_118 : decode cX1_aimAtPlayer 118 = .ok (.getfield 134, 3) := by decide +kernel
theorem dX1_aimAtPlayer_121 : decode cX1_aimAtPlayer 121 = .ok (.aload_n 0, 1) := by decide +kernel
theorem dX1_aimAtPlayer_122 : decode cX1_aimAtPlayer 122 = .ok (.getfield 25, 3) := by decide +kernel
theorem dX1_aimAtPlayer_125 : decode cX1_aimAtPlayer 125 = .ok (.getfield 137, 3) := by decide +kernel
theorem dX1_aimAtPlayer_128 : decode cX1_aimAtPlayer 128 = .ok (.invokevirtual 214, 3) := by decide +kernel
theorem dX1_aimAtPlayer_131 : decode cX1_aimAtPlayer 131 = .ok (.return_, 1) := by decide +kernel
