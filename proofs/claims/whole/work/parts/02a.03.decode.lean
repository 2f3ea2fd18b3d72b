theorem dX1_meetHunters_0 : decode cX1_meetHunters 0 = .ok (.iconst 1, 1) := by decide +kernel
theorem dX1_meetHunters_1 : decode cX1_meetHunters 1 = .ok (.istore_n 1, 1) := by decide +kernel
theorem dX1_meetHunters_2 : decode cX1_meetHunters 2 = .ok (.iload_n 1, 1) := by decide +kernel
theorem dX1_meetHunters_3 : decode cX1_meetHunters 3 = .ok (.iconst 5, 1) := by decide +kernel
theorem dX1_meetHunters_4 : decode cX1_meetHunters 4 = .ok (.if_icmp .ge 56, 3) := by decide +kernel
theorem dX1_meetHunters_7 : decode cX1_meetHunters 7 = .ok (.aload_n 0, 1) := by decide +kernel
theorem dX1_meetHunters_8 : decode cX1_meetHunters 8 = .ok (.getfield 80, 3) := by decide +kernel
theorem dX1_meetHunters_11 : decode cX1_meetHunters 11 = .ok (.ifCond .ne 49, 3) := by decide +kernel
theorem dX1_meetHunters_14 : decode cX1_meetHunters 14 = .ok (.aload_n 0, 1) := by decide +kernel
theorem dX1_meetHunters_15 : decode cX1_meetHunters 15 = .ok (.getfield 20, 3) := by decide +kernel
theorem dX1_meetHunters_18 : decode cX1_meetHunters 18 = .ok (.iload_n 1, 1) := by decide +kernel
theorem dX1_meetHunters_19 : decode cX1_meetHunters 19 = .ok (.aaload, 1) := by decide +kernel
theorem dX1_meetHunters_20 : decode cX1_meetHunters 20 = .ok (.astore_n 2, 1) := by decide +kernel
theorem dX1_meetHunters_21 : decode cX1_meetHunters 21 = .ok (.aload_n 2, 1) := by decide +kernel
theorem dX1_meetHunters_22 : decode cX1_meetHunters 22 = .ok (.aload_n 0, 1) := by decide +kernel
theorem dX1_meetHunters_23 : decode cX1_meetHunters 23 = .ok (.getfield 25, 3) := by decide +kernel
theorem dX1_meetHunters_26 : decode cX1_meetHunters 26 = .ok (.invokevirtual 235, 3) := by decide +kernel
theorem dX1_meetHunters_29 : decode cX1_meetHunters 29 = .ok (.ifCond .ne 6, 3) := by decide +kernel
theorem dX1_meetHunters_32 : decode cX1_meetHunters 32 = .ok (.goto 22, 3) := by decide +kernel
theorem dX1_meetHunters_35 : decode cX1_meetHunters 35 = .ok (.aload_n 2, 1) := by decide +kernel
theorem dX1_meetHunters_36 : decode cX1_meetHunters 36 = .ok (.getfield 106, 3) := by decide +kernel
theorem dX1_meetHunters_39 : decode cX1_meetHunters 39 = .ok (.ifCond .eq 11, 3) := by decide +kernel
theorem dX1_meetHunters_42 : decode cX1_meetHunters 42 = .ok (.aload_n 0, 1) := by decide +kernel
theorem dX1_meetHunters_43 : decode cX1_meetHunters 43 = .ok (.aload_n 2, 1) := by decide +kernel
theorem dX1_meetHunters_44 : decode cX1_meetHunters 44 = .ok (.invokevirtual 238, 3) := by decide +kernel
theorem dX1_meetHunters_47 : decode cX1_meetHunters 47 = .ok (.goto 7, 3) := by decide +kernel
theorem dX1_meetHunters_50 : decode cX1_meetHunters 50 = .ok (.aload_n 0, 1) := by decide +kernel
theorem dX1_meetHunters_51 : decode cX1_meetHunters 51 = .ok (.invokevirtual 241, 3) := by decide +kernel
theorem dX1_meetHunters_54 : decode cX1_meetHunters 54 = .ok (.iinc 1 1, 3) := by decide +kernel
theorem dX1_meetHunters_57 : decode cX1_meetHunters 57 = .ok (.goto (-55), 3) := by decide +kernel
theorem dX1_meetHunters_60 : decode cX1_meetHunters 60 = .ok (.return_, 1) := by decide +kernel
theorem dX1_eatHunter_0 : decode cX1_eatHunter 0 = .ok (.aload_n 0, 1) := by decide +kernel
theorem dX1_eatHunter_1 : decode cX1_eatHunter 1 = .ok (.iconst 1, 1) := by decide +kernel
theorem dX1_eatHunter_2 : decode cX1_eatHunter 2 = .ok (.putfield 77, 3) := by decide +kernel
theorem dX1_eatHunter_5 : decode cX1_eatHunter 5 = .ok (.aload_n 0, 1) := by decide +kernel
theorem dX1_eatHunter_6 : decode cX1_eatHunter 6 = .ok (.sipush 200, 3) := by decide +kernel
theorem dX1_eatHunter_9 : decode cX1_eatHunter 9 = .ok (.aload_n 0, 1) := by decide +kernel
theorem dX1_eatHunter_10 : decode cX1_eatHunter 10 = .ok (.getfield 49, 3) := by decide +kernel
theorem dX1_eatHunter_13 : decode cX1_eatHunter 13 = .ok (.ishl, 1) := by decide +kernel
theorem dX1_eatHunter_14 : decode cX1_eatHunter 14 = .ok (.invokevirtual 143, 3) := by decide +kernel
theorem dX1_eatHunter_17 : decode cX1_eatHunter 17 = .ok (.aload_n 0, 1) := by decide +kernel
theorem dX1_eatHunter_18 : decode cX1_eatHunter 18 = .ok (.aload_n 0, 1) := by decide +kernel
theorem dX1_eatHunter_19 : decode cX1_eatHunter 19 = .ok (.getfield 49, 3) := by decide +kernel
theorem dX1_eatHunter_22 : decode cX1_eatHunter 22 = .ok (.iconst 1, 1) := by decide +kernel
theorem dX1_eatHunter_23 : decode cX1_eatHunter 23 = .ok (.iadd, 1) := by decide +kernel
theorem dX1_eatHunter_24 : decode cX1_eatHunter 24 = .ok (.iconst 3, 1) := by decide +kernel
theorem dX1_eatHunter_25 : decode cX1_eatHunter 25 = .ok (.invokestatic 125, 3) := by decide +kernel
theorem dX1_eatHunter_28 : decode cX1_eatHunter 28 = .ok (.putfield 49, 3) := by decide +kernel
theorem dX1_eatHunter_31 : decode cX1_eatHunter 31 = .ok (.aload_n 1, 1) := by decide +kernel
theorem dX1_eatHunter_32 : decode cX1_eatHunter 32 = .ok (.bipush 6, 2) := by decide +kernel
theorem dX1_eatHunter_34 : decode cX1_eatHunter 34 = .ok (.iconst 4, 1) := by decide +kernel
theorem dX1_eatHunter_35 : decode cX1_eatHunter 35 = .ok (.iconst 0, 1) := by decide +kernel
theorem dX1_eatHunter_36 : decode cX1_eatHunter 36 = .ok (.bipush 30, 2) := by decide +kernel
theorem dX1_eatHunter_38 : decode cX1_eatHunter 38 = .ok (.invokevirtual 64, 3) := by decide +kernel
theorem dX1_eatHunter_41 : decode cX1_eatHunter 41 = .ok (.return_, 1) := by decide +kernel
theorem dX1_loseLife_0 : decode cX1_loseLife 0 = .ok (.aload_n 0, 1) := by decide +kernel
theorem dX1_loseLife_1 : decode cX1_loseLife 1 = .ok (.iconst 1, 1) := by decide +kernel
theorem dX1_loseLife_2 : decode cX1_loseLife 2 = .ok (.putfield 80, 3) := by decide +kernel
theorem dX1_loseLife_5 : decode cX1_loseLife 5 = .ok (.aload_n 0, 1) := by decide +kernel
theorem dX1_loseLife_6 : decode cX1_loseLife 6 = .ok (.dup, 1) := by decide +kernel
theorem dX1_loseLife_7 : decode cX1_loseLife 7 = .ok (.getfield 36, 3) := by decide +kernel
theorem dX1_loseLife_10 : decode cX1_loseLife 10 = .ok (.iconst 1, 1) := by decide +kernel
theorem dX1_loseLife_11 : decode cX1_loseLife 11 = .ok (.isub, 1) := by decide +kernel
theorem dX1_loseLife_12 : decode cX1_loseLife 12 = .ok (.putfield 36, 3) := by decide +kernel
theorem dX1_loseLife_15 : decode cX1_loseLife 15 = .ok (.aload_n 0, 1) := by decide +kernel
theorem dX1_loseLife_16 : decode cX1_loseLife 16 = .ok (.getfield 36, 3) := by decide +kernel
theorem dX1_loseLife_19 : decode cX1_loseLife 19 = .ok (.ifCond .ne 11, 3) := by decide +kernel
theorem dX1_loseLife_22 : decode cX1_loseLife 22 = .ok (.aload_n 0, 1) := by decide +kernel
theorem dX1_loseLife_23 : decode cX1_loseLife 23 = .ok (.iconst 0, 1) := by decide +kernel
theorem dX1_loseLife_24 : decode cX1_loseLife 24 = .ok (.putfield 32, 3) := by decide +kernel
theorem dX1_loseLife_27 : decode cX1_loseLife 27 = .ok (.goto 7, 3) := by decide +kernel
theorem dX1_loseLife_30 : decode cX1_loseLife 30 = .ok (.aload_n 0, 1) := by decide +kernel
theorem dX1_loseLife_31 : decode cX1_loseLife 31 = .ok (.invokevirtual 61, 3) := by decide +kernel
theorem dX1_loseLife_34 : decode cX1_loseLife 34 = .ok (.return_, 1) := by decide +kernel
theorem dX1_humPitch_0 : decode cX1_humPitch 0 = .ok (.aload_n 0, 1) := by decide +kernel
theorem dX1_humPitch_1 : decode cX1_humPitch 1 = .ok (.getfield 68, 3) := by decide +kernel
theorem dX1_humPitch_4 : decode cX1_humPitch 4 = .ok (.ifCond .le 7, 3) := by decide +kernel
theorem dX1_humPitch_7 : decode cX1_humPitch 7 = .ok (.sipush 600, 3) := by decide +kernel
theorem dX1_humPitch_10 : decode cX1_humPitch 10 = .ok (.ireturn, 1) := by decide +kernel
theorem dX1_humPitch_11 : decode cX1_humPitch 11 = .ok (.aload_n 0, 1) := by decide +kernel
theorem dX1_humPitch_12 : decode cX1_humPitch 12 = .ok (.invokevirtual 218, 3) := by decide +kernel
theorem dX1_humPitch_15 : decode cX1_humPitch 15 = .ok (.ifCond .eq 9, 3) := by decide +kernel
theorem dX1_humPitch_18 : decode cX1_humPitch 18 = .ok (.sipush 300, 3) := by decide +kernel
theorem dX1_humPitch_21 : decode cX1_humPitch 21 = .ok (.goto 14, 3) := by decide +kernel
theorem dX1_humPitch_24 : decode cX1_humPitch 24 = .ok (.sipush 300, 3) := by decide +kernel
theorem dX1_humPitch_27 : decode cX1_humPitch 27 = .ok (.bipush 10, 2) := by decide +kernel
theorem dX1_humPitch_29 : decode cX1_humPitch 29 = .ok (.aload_n 0, 1) := by decide +kernel
theorem dX1_humPitch_30 : decode cX1_humPitch 30 = .ok (.getfield 40, 3) := by decide +kernel
theorem dX1_humPitch_33 : decode cX1_humPitch 33 = .ok (.imul, 1) := by decide +kernel
theorem dX1_humPitch_34 : decode cX1_humPitch 34 = .ok (.iadd, 1) := by decide +kernel
theorem dX1_humPitch_35 : decode cX1_humPitch 35 = .ok (.ireturn, 1) := by decide +kernel
theorem dX2_init_0 : decode cX2_init 0 = .ok (.aload_n 0, 1) := by decide +kernel
theorem dX2_init_1 : decode cX2_init 1 = .ok (.invokespecial 3, 3) := by decide +kernel
theorem dX2_init_4 : decode cX2_init 4 = .ok (.aload_n 0, 1) := by decide +kernel
theorem dX2_init_5 : decode cX2_init 5 = .ok (.bipush 117, 2) := by decide +kernel
theorem dX2_init_7 : decode cX2_init 7 = .ok (.newarray .byte, 2) := by decide +kernel
theorem dX2_init_9 : decode cX2_init 9 = .ok (.putfield 9, 3) := by decide +kernel
theorem dX2_init_12 : decode cX2_init 12 = .ok (.return_, 1) := by decide +kernel
theorem dX2_refill_0 : decode cX2_refill 0 = .ok (.aload_n 0, 1) := by decide +kernel
theorem dX2_refill_1 : decode cX2_refill 1 = .ok (.iconst 0, 1) := by decide +kernel
theorem dX2_refill_2 : decode cX2_refill 2 = .ok (.putfield 15, 3) := by decide +kernel
theorem dX2_refill_5 : decode cX2_refill 5 = .ok (.iconst 0, 1) := by decide +kernel
theorem dX2_refill_6 : decode cX2_refill 6 = .ok (.istore_n 1, 1) := by decide +kernel
theorem dX2_refill_7 : decode cX2_refill 7 = .ok (.iload_n 1, 1) := by decide +kernel
theorem dX2_refill_8 : decode cX2_refill 8 = .ok (.aload_n 0, 1) := by decide +kernel
theorem dX2_refill_9 : decode cX2_refill 9 = .ok (.getfield 9, 3) := by decide +kernel
theorem dX2_refill_12 : decode cX2_refill 12 = .ok (.arraylength, 1) := by decide +kernel
theorem dX2_refill_13 : decode cX2_refill 13 = .ok (.if_icmp .ge 50, 3) := by decide +kernel
theorem dX2_refill_16 : decode cX2_refill 16 = .ok (.aload_n 0, 1) := by decide +kernel
theorem dX2_refill_17 : decode cX2_refill 17 = .ok (.getfield 9, 3) := by decide +kernel
theorem dX2_refill_20 : decode cX2_refill 20 = .ok (.iload_n 1, 1) := by decide +kernel
theorem dX2_refill_21 : decode cX2_refill 21 = .ok (.getstatic 19, 3) := by decide +kernel
theorem dX2_refill_24 : decode cX2_refill 24 = .ok (.iload_n 1, 1) := by decide +kernel
theorem dX2_refill_25 : decode cX2_refill 25 = .ok (.baload, 1) := by decide +kernel
theorem dX2_refill_26 : decode cX2_refill 26 = .ok (.bastore, 1) := by decide +kernel
theorem dX2_refill_27 : decode cX2_refill 27 = .ok (.aload_n 0, 1) := by decide +kernel
theorem dX2_refill_28 : decode cX2_refill 28 = .ok (.getfield 9, 3) := by decide +kernel
theorem dX2_refill_31 : decode cX2_refill 31 = .ok (.iload_n 1, 1) := by decide +kernel
theorem dX2_refill_32 : decode cX2_refill 32 = .ok (.baload, 1) := by decide +kernel
theorem dX2_refill_33 : decode cX2_refill 33 = .ok (.iconst 2, 1) := by decide +kernel
theorem dX2_refill_34 : decode cX2_refill 34 = .ok (.if_icmp .eq 13, 3) := by decide +kernel
theorem dX2_refill_37 : decode cX2_refill 37 = .ok (.aload_n 0, 1) := by decide +kernel
theorem dX2_refill_38 : decode cX2_refill 38 = .ok (.getfield 9, 3) := by decide +kernel
theorem dX2_refill_41 : decode cX2_refill 41 = .ok (.iload_n 1, 1) := by decide +kernel
theorem dX2_refill_42 : decode cX2_refill 42 = .ok (.baload, 1) := by decide +kernel
theorem dX2_refill_43 : decode cX2_refill 43 = .ok (.iconst 3, 1) := by decide +kernel
theorem dX2_refill_44 : decode cX2_refill 44 = .ok (.if_icmp .ne 13, 3) := by decide +kernel
theorem dX2_refill_47 : decode cX2_refill 47 = .ok (.aload_n 0, 1) := by decide +kernel
theorem dX2_refill_48 : decode cX2_refill 48 = .ok (.dup, 1) := by decide +kernel
theorem dX2_refill_49 : decode cX2_refill 49 = .ok (.getfield 15, 3) := by decide +kernel
theorem dX2_refill_52 : decode cX2_refill 52 = .ok (.iconst 1, 1) := by decide +kernel
theorem dX2_refill_53 : decode cX2_refill 53 = .ok (.iadd, 1) := by decide +kernel
theorem dX2_refill_54 : decode cX2_refill 54 = .ok (.putfield 15, 3) := by decide +kernel
theorem dX2_refill_57 : decode cX2_refill 57 = .ok (.iinc 1 1, 3) := by decide +kernel
theorem dX2_refill_60 : decode cX2_refill 60 = .ok (.goto (-53), 3) := by decide +kernel
theorem dX2_refill_63 : decode cX2_refill 63 = .ok (.return_, 1) := by decide +kernel
theorem dX2_whatIs_0 : decode cX2_whatIs 0 = .ok (.iload_n 1, 1) := by decide +kernel
theorem dX2_whatIs_1 : decode cX2_whatIs 1 = .ok (.ifCond .lt 19, 3) := by decide +kernel
theorem dX2_whatIs_4 : decode cX2_whatIs 4 = .ok (.iload_n 1, 1) := by decide +kernel
theorem dX2_whatIs_5 : decode cX2_whatIs 5 = .ok (.bipush 13, 2) := by decide +kernel
theorem dX2_whatIs_7 : decode cX2_whatIs 7 = .ok (.if_icmp .ge 13, 3) := by decide +kernel
theorem dX2_whatIs_10 : decode cX2_whatIs 10 = .ok (.iload_n 2, 1) := by decide +kernel
theorem dX2_whatIs_11 : decode cX2_whatIs 11 = .ok (.ifCond .lt 9, 3) := by decide +kernel
theorem dX2_whatIs_14 : decode cX2_whatIs 14 = .ok (.iload_n 2, 1) := by decide +kernel
theorem dX2_whatIs_15 : decode cX2_whatIs 15 = .ok (.bipush 9, 2) := by decide +kernel
theorem dX2_whatIs_17 : decode cX2_whatIs 17 = .ok (.if_icmp .lt 5, 3) := by decide +kernel
theorem dX2_whatIs_20 : decode cX2_whatIs 20 = .ok (.iconst (-1), 1) := by decide +kernel
theorem dX2_whatIs_21 : decode cX2_whatIs 21 = .ok (.ireturn, 1) := by decide +kernel
theorem dX2_whatIs_22 : decode cX2_whatIs 22 = .ok (.aload_n 0, 1) := by decide +kernel
theorem dX2_whatIs_23 : decode cX2_whatIs 23 = .ok (.getfield 9, 3) := by decide +kernel
theorem dX2_whatIs_26 : decode cX2_whatIs 26 = .ok (.iload_n 2, 1) := by decide +kernel
theorem dX2_whatIs_27 : decode cX2_whatIs 27 = .ok (.bipush 13, 2) := by decide +kernel
theorem dX2_whatIs_29 : decode cX2_whatIs 29 = .ok (.imul, 1) := by decide +kernel
theorem dX2_whatIs_30 : decode cX2_whatIs 30 = .ok (.iload_n 1, 1) := by decide +kernel
theorem dX2_whatIs_31 : decode cX2_whatIs 31 = .ok (.iadd, 1) := by decide +kernel
theorem dX2_whatIs_32 : decode cX2_whatIs 32 = .ok (.baload, 1) := by decide +kernel
theorem dX2_whatIs_33 : decode cX2_whatIs 33 = .ok (.ireturn, 1) := by decide +kernel
theorem dX2_isOpen_0 : decode cX2_isOpen 0 = .ok (.aload_n 0, 1) := by decide +kernel
theorem dX2_isOpen_1 : decode cX2_isOpen 1 = .ok (.aload_n 1, 1) := by decide +kernel
theorem dX2_isOpen_2 : decode cX2_isOpen 2 = .ok (.getfield 22, 3) := by decide +kernel
theorem dX2_isOpen_5 : decode cX2_isOpen 5 = .ok (.iload_n 2, 1) := by decide +kernel
theorem dX2_isOpen_6 : decode cX2_isOpen 6 = .ok (.invokestatic 27, 3) := by decide +kernel
theorem dX2_isOpen_9 : decode cX2_isOpen 9 = .ok (.aload_n 1, 1) := by decide +kernel
theorem dX2_isOpen_10 : decode cX2_isOpen 10 = .ok (.getfield 31, 3) := by decide +kernel
theorem dX2_isOpen_13 : decode cX2_isOpen 13 = .ok (.iload_n 2, 1) := by decide +kernel
theorem dX2_isOpen_14 : decode cX2_isOpen 14 = .ok (.invokestatic 34, 3) := by decide +kernel
theorem dX2_isOpen_17 : decode cX2_isOpen 17 = .ok (.invokevirtual 37, 3) := by decide +kernel
theorem dX2_isOpen_20 : decode cX2_isOpen 20 = .ok (.istore_n 3, 1) := by decide +kernel
theorem dX2_isOpen_21 : decode cX2_isOpen 21 = .ok (.iload_n 3, 1) := by decide +kernel
theorem dX2_isOpen_22 : decode cX2_isOpen 22 = .ok (.iconst 1, 1) := by decide +kernel
theorem dX2_isOpen_23 : decode cX2_isOpen 23 = .ok (.if_icmp .eq 24, 3) := by decide +kernel
theorem dX2_isOpen_26 : decode cX2_isOpen 26 = .ok (.iload_n 3, 1) := by decide +kernel
theorem dX2_isOpen_27 : decode cX2_isOpen 27 = .ok (.iconst (-1), 1) := by decide +kernel
theorem dX2_isOpen_28 : decode cX2_isOpen 28 = .ok (.if_icmp .eq 19, 3) := by decide +kernel
theorem dX2_isOpen_31 : decode cX2_isOpen 31 = .ok (.iload_n 3, 1) := by decide +kernel
theorem dX2_isOpen_32 : decode cX2_isOpen 32 = .ok (.iconst 4, 1) := by decide +kernel
theorem dX2_isOpen_33 : decode cX2_isOpen 33 = .ok (.if_icmp .ne 10, 3) := by decide +kernel
theorem dX2_isOpen_36 : decode cX2_isOpen 36 = .ok (.aload_n 1, 1) := by decide +kernel
theorem dX2_isOpen_37 : decode cX2_isOpen 37 = .ok (.getfield 40, 3) := by decide +kernel
theorem dX2_isOpen_40 : decode cX2_isOpen 40 = .ok (.ifCond .eq 7, 3) := by decide +kernel
theorem dX2_isOpen_43 : decode cX2_isOpen 43 = .ok (.iconst 1, 1) := by decide +kernel
theorem dX2_isOpen_44 : decode cX2_isOpen 44 = .ok (.goto 4, 3) := by decide +kernel
theorem dX2_isOpen_47 : decode cX2_isOpen 47 = .ok (.iconst 0, 1) := by decide +kernel
theorem dX2_isOpen_48 : decode cX2_isOpen 48 = .ok (.ireturn, 1) := by decide +kernel
theorem dX2_eat_0 : decode cX2_eat 0 = .ok (.aload_n 0, 1) := by decide +kernel
theorem dX2_eat_1 : decode cX2_eat 1 = .ok (.iload_n 1, 1) := by decide +kernel
theorem dX2_eat_2 : decode cX2_eat 2 = .ok (.iload_n 2, 1) := by decide +kernel
theorem dX2_eat_3 : decode cX2_eat 3 = .ok (.invokevirtual 37, 3) := by decide +kernel
theorem dX2_eat_6 : decode cX2_eat 6 = .ok (.istore_n 3, 1) := by decide +kernel
theorem dX2_eat_7 : decode cX2_eat 7 = .ok (.iload_n 3, 1) := by decide +kernel
theorem dX2_eat_8 : decode cX2_eat 8 = .ok (.iconst 2, 1) := by decide +kernel
theorem dX2_eat_9 : decode cX2_eat 9 = .ok (.if_icmp .eq 10, 3) := by decide +kernel
theorem dX2_eat_12 : decode cX2_eat 12 = .ok (.iload_n 3, 1) := by decide +kernel
theorem dX2_eat_13 : decode cX2_eat 13 = .ok (.iconst 3, 1) := by decide +kernel
theorem dX2_eat_14 : decode cX2_eat 14 = .ok (.if_icmp .eq 5, 3) := by decide +kernel
theorem dX2_eat_17 : decode cX2_eat 17 = .ok (.iconst 0, 1) := by decide +kernel
theorem dX2_eat_18 : decode cX2_eat 18 = .ok (.ireturn, 1) := by decide +kernel
theorem dX2_eat_19 : decode cX2_eat 19 = .ok (.aload_n 0, 1) := by decide +kernel
theorem dX2_eat_20 : decode cX2_eat 20 = .ok (.getfield 9, 3) := by decide +kernel
theorem dX2_eat_23 : decode cX2_eat 23 = .ok (.iload_n 2, 1) := by decide +kernel
theorem dX2_eat_24 : decode cX2_eat 24 = .ok (.bipush 13, 2) := by decide +kernel
theorem dX2_eat_26 : decode cX2_eat 26 = .ok (.imul, 1) := by decide +kernel
theorem dX2_eat_27 : decode cX2_eat 27 = .ok (.iload_n 1, 1) := by decide +kernel
theorem dX2_eat_28 : decode cX2_eat 28 = .ok (.iadd, 1) := by decide +kernel
theorem dX2_eat_29 : decode cX2_eat 29 = .ok (.iconst 0, 1) := by decide +kernel
theorem dX2_eat_30 : decode cX2_eat 30 = .ok (.bastore, 1) := by decide +kernel
theorem dX2_eat_31 : decode cX2_eat 31 = .ok (.aload_n 0, 1) := by decide +kernel
theorem dX2_eat_32 : decode cX2_eat 32 = .ok (.dup, 1) := by decide +kernel
theorem dX2_eat_33 : decode cX2_eat 33 = .ok (.getfield 15, 3) := by decide +kernel
theorem dX2_eat_36 : decode cX2_eat 36 = .ok (.iconst 1, 1) := by decide +kernel
theorem dX2_eat_37 : decode cX2_eat 37 = .ok (.isub, 1) := by decide +kernel
theorem dX2_eat_38 : decode cX2_eat 38 = .ok (.putfield 15, 3) := by decide +kernel
theorem dX2_eat_41 : decode cX2_eat 41 = .ok (.iload_n 3, 1) := by decide +kernel
theorem dX2_eat_42 : decode cX2_eat 42 = .ok (.ireturn, 1) := by decide +kernel
theorem dX3_tileColour_0 : decode cX3_tileColour 0 = .ok (.iload_n 1, 1) := by decide +kernel
theorem dX3_tileColour_1 : decode cX3_tileColour 1 = .ok (.iconst 4, 1) := by decide +kernel
theorem dX3_tileColour_2 : decode cX3_tileColour 2 = .ok (.irem, 1) := by decide +kernel
theorem dX3_tileColour_3 : decode cX3_tileColour 3 = .ok (.istore 4, 2) := by decide +kernel
theorem dX3_tileColour_5 : decode cX3_tileColour 5 = .ok (.iload_n 2, 1) := by decide +kernel
theorem dX3_tileColour_6 : decode cX3_tileColour 6 = .ok (.iconst 4, 1) := by decide +kernel
theorem dX3_tileColour_7 : decode cX3_tileColour 7 = .ok (.irem, 1) := by decide +kernel
theorem dX3_tileColour_8 : decode cX3_tileColour 8 = .ok (.istore 5, 2) := by decide +kernel
theorem dX3_tileColour_10 : decode cX3_tileColour 10 = .ok (.aload_n 0, 1) := by decide +kernel
theorem dX3_tileColour_11 : decode cX3_tileColour 11 = .ok (.iload_n 1, 1) := by decide +kernel
theorem dX3_tileColour_12 : decode cX3_tileColour 12 = .ok (.iconst 4, 1) := by decide +kernel
theorem dX3_tileColour_13 : decode cX3_tileColour 13 = .ok (.idiv, 1) := by decide +kernel
theorem dX3_tileColour_14 : decode cX3_tileColour 14 = .ok (.iload_n 2, 1) := by decide +kernel
theorem dX3_tileColour_15 : decode cX3_tileColour 15 = .ok (.iconst 4, 1) := by decide +kernel
theorem dX3_tileColour_16 : decode cX3_tileColour 16 = .ok (.idiv, 1) := by decide +kernel
theorem dX3_tileColour_17 : decode cX3_tileColour 17 = .ok (.invokevirtual 11, 3) := by decide +kernel
theorem dX3_tileColour_20 : decode cX3_tileColour 20 = .ok (.tableswitch 93 1 4 #[32, 34, 52, 81], 32) := by decide +kernel
theorem dX3_tileColour_52 : decode cX3_tileColour 52 = .ok (.iconst 1, 1) := by decide +kernel
theorem dX3_tileColour_53 : decode cX3_tileColour 53 = .ok (.ireturn, 1) := by decide +kernel
theorem dX3_tileColour_54 : decode cX3_tileColour 54 = .ok (.iload 4, 2) := by decide +kernel
theorem dX3_tileColour_56 : decode cX3_tileColour 56 = .ok (.iconst 1, 1) := by decide +kernel
theorem dX3_tileColour_57 : decode cX3_tileColour 57 = .ok (.if_icmp .ne 13, 3) := by decide +kernel
theorem dX3_tileColour_60 : decode cX3_tileColour 60 = .ok (.iload 5, 2) := by decide +kernel
theorem dX3_tileColour_62 : decode cX3_tileColour 62 = .ok (.iconst 1, 1) := by decide +kernel
theorem dX3_tileColour_63 : decode cX3_tileColour 63 = .ok (.if_icmp .ne 7, 3) := by decide +kernel
theorem dX3_tileColour_66 : decode cX3_tileColour 66 = .ok (.iconst 2, 1) := by decide +kernel
theorem dX3_tileColour_67 : decode cX3_tileColour 67 = .ok (.goto 4, 3) := by decide +kernel
theorem dX3_tileColour_70 : decode cX3_tileColour 70 = .ok (.iconst 0, 1) := by decide +kernel
theorem dX3_tileColour_71 : decode cX3_tileColour 71 = .ok (.ireturn, 1) := by decide +kernel
theorem dX3_tileColour_72 : decode cX3_tileColour 72 = .ok (.iload 4, 2) := by decide +kernel
theorem dX3_tileColour_74 : decode cX3_tileColour 74 = .ok (.invokestatic 17, 3) := by decide +kernel
theorem dX3_tileColour_77 : decode cX3_tileColour 77 = .ok (.ifCond .eq 22, 3) := by decide +kernel
theorem dX3_tileColour_80 : decode cX3_tileColour 80 = .ok (.iload 5, 2) := by decide +kernel
theorem dX3_tileColour_82 : decode cX3_tileColour 82 = .ok (.invokestatic 17, 3) := by decide +kernel
theorem dX3_tileColour_85 : decode cX3_tileColour 85 = .ok (.ifCond .eq 14, 3) := by decide +kernel
theorem dX3_tileColour_88 : decode cX3_tileColour 88 = .ok (.iload_n 3, 1) := by decide +kernel
theorem dX3_tileColour_89 : decode cX3_tileColour 89 = .ok (.bipush 8, 2) := by decide +kernel
theorem dX3_tileColour_91 : decode cX3_tileColour 91 = .ok (.iand, 1) := by decide +kernel
theorem dX3_tileColour_92 : decode cX3_tileColour 92 = .ok (.ifCond .ne 7, 3) := by decide +kernel
theorem dX3_tileColour_95 : decode cX3_tileColour 95 = .ok (.iconst 2, 1) := by decide +kernel
theorem dX3_tileColour_96 : decode cX3_tileColour 96 = .ok (.goto 4, 3) := by decide +kernel
theorem dX3_tileColour_99 : decode cX3_tileColour 99 = .ok (.iconst 0, 1) := by decide +kernel
theorem dX3_tileColour_100 : decode cX3_tileColour 100 = .ok (.ireturn, 1) := by decide +kernel
theorem dX3_tileColour_101 : decode cX3_tileColour 101 = .ok (.iload 5, 2) := by decide +kernel
theorem dX3_tileColour_103 : decode cX3_tileColour 103 = .ok (.ifCond .ne 8, 3) := by decide +kernel
theorem dX3_tileColour_106 : decode cX3_tileColour 106 = .ok (.bipush 9, 2) := by decide +kernel
theorem dX3_tileColour_108 : decode cX3_tileColour 108 = .ok (.goto 4, 3) := by decide +kernel
theorem dX3_tileColour_111 : decode cX3_tileColour 111 = .ok (.iconst 0, 1) := by decide +kernel
theorem dX3_tileColour_112 : decode cX3_tileColour 112 = .ok (.ireturn, 1) := by decide +kernel
theorem dX3_tileColour_113 : decode cX3_tileColour 113 = .ok (.iconst 0, 1) := by decide +kernel
theorem dX3_tileColour_114 : decode cX3_tileColour 114 = .ok (.ireturn, 1) := by decide +kernel
theorem dX3_spriteColour_0 : decode cX3_spriteColour 0 = .ok (.aload_n 0, 1) := by decide +kernel
theorem dX3_spriteColour_1 : decode cX3_spriteColour 1 = .ok (.getfield 21, 3) := by decide +kernel
theorem dX3_spriteColour_4 : decode cX3_spriteColour 4 = .ok (.ifCond .eq 8, 3) := by decide +kernel
theorem dX3_spriteColour_7 : decode cX3_spriteColour 7 = .ok (.bipush 8, 2) := by decide +kernel
theorem dX3_spriteColour_9 : decode cX3_spriteColour 9 = .ok (.goto 6, 3) := by decide +kernel
theorem dX3_spriteColour_12 : decode cX3_spriteColour 12 = .ok (.iconst 3, 1) := by decide +kernel
theorem dX3_spriteColour_13 : decode cX3_spriteColour 13 = .ok (.iload_n 1, 1) := by decide +kernel
theorem dX3_spriteColour_14 : decode cX3_spriteColour 14 = .ok (.iadd, 1) := by decide +kernel
theorem dX3_spriteColour_15 : decode cX3_spriteColour 15 = .ok (.ireturn, 1) := by decide +kernel
theorem dX3_covers_0 : decode cX3_covers 0 = .ok (.aload_n 0, 1) := by decide +kernel
theorem dX3_covers_1 : decode cX3_covers 1 = .ok (.getfield 27, 3) := by decide +kernel
theorem dX3_covers_4 : decode cX3_covers 4 = .ok (.ldc 31, 2) := by decide +kernel
theorem dX3_covers_6 : decode cX3_covers 6 = .ok (.fmul, 1) := by decide +kernel
theorem dX3_covers_7 : decode cX3_covers 7 = .ok (.f2i, 1) := by decide +kernel
theorem dX3_covers_8 : decode cX3_covers 8 = .ok (.istore 5, 2) := by decide +kernel
theorem dX3_covers_10 : decode cX3_covers 10 = .ok (.aload_n 0, 1) := by decide +kernel
theorem dX3_covers_11 : decode cX3_covers 11 = .ok (.getfield 32, 3) := by decide +kernel
theorem dX3_covers_14 : decode cX3_covers 14 = .ok (.iconst 4, 1) := by decide +kernel
theorem dX3_covers_15 : decode cX3_covers 15 = .ok (.imul, 1) := by decide +kernel
theorem dX3_covers_16 : decode cX3_covers 16 = .ok (.iload 5, 2) := by decide +kernel
theorem dX3_covers_18 : decode cX3_covers 18 = .ok (.aload_n 0, 1) := by decide +kernel
theorem dX3_covers_19 : decode cX3_covers 19 = .ok (.getfield 36, 3) := by decide +kernel
theorem dX3_covers_22 : decode cX3_covers 22 = .ok (.invokestatic 39, 3) := by decide +kernel
theorem dX3_covers_25 : decode cX3_covers 25 = .ok (.imul, 1) := by decide +kernel
theorem dX3_covers_26 : decode cX3_covers 26 = .ok (.iadd, 1) := by decide +kernel
theorem dX3_covers_27 : decode cX3_covers 27 = .ok (.istore 6, 2) := by decide +kernel
theorem dX3_covers_29 : decode cX3_covers 29 = .ok (.aload_n 0, 1) := by decide +kernel
theorem dX3_covers_30 : decode cX3_covers 30 = .ok (.getfield 43, 3) := by decide +kernel
theorem dX3_covers_33 : decode cX3_covers 33 = .ok (.iconst 4, 1) := by decide +kernel
theorem dX3_covers_34 : decode cX3_covers 34 = .ok (.imul, 1) := by decide +kernel
theorem dX3_covers_35 : decode cX3_covers 35 = .ok (.iload 5, 2) := by decide +kernel
theorem dX3_covers_37 : decode cX3_covers 37 = .ok (.aload_n 0, 1) := by decide +kernel
theorem dX3_covers_38 : decode cX3_covers 38 = .ok (.getfield 36, 3) := by decide +kernel
theorem dX3_covers_41 : decode cX3_covers 41 = .ok (.invokestatic 46, 3) := by decide +kernel
theorem dX3_covers_44 : decode cX3_covers 44 = .ok (.imul, 1) := by decide +kernel
theorem dX3_covers_45 : decode cX3_covers 45 = .ok (.iadd, 1) := by decide +kernel
theorem dX3_covers_46 : decode cX3_covers 46 = .ok (.istore 7, 2) := by decide +kernel
theorem dX3_covers_48 : decode cX3_covers 48 = .ok (.iload_n 2, 1) := by decide +kernel
theorem dX3_covers_49 : decode cX3_covers 49 = .ok (.iload 6, 2) := by decide +kernel
theorem dX3_covers_51 : decode cX3_covers 51 = .ok (.isub, 1) := by decide +kernel
theorem dX3_covers_52 : decode cX3_covers 52 = .ok (.bipush 52, 2) := by decide +kernel
theorem dX3_covers_54 : decode cX3_covers 54 = .ok (.invokestatic 49, 3) := by decide +kernel
theorem dX3_covers_57 : decode cX3_covers 57 = .ok (.istore 8, 2) := by decide +kernel
theorem dX3_covers_59 : decode cX3_covers 59 = .ok (.iload_n 3, 1) := by decide +kernel
theorem dX3_covers_60 : decode cX3_covers 60 = .ok (.iload 7, 2) := by decide +kernel
theorem dX3_covers_62 : decode cX3_covers 62 = .ok (.isub, 1) := by decide +kernel
theorem dX3_covers_63 : decode cX3_covers 63 = .ok (.bipush 36, 2) := by decide +kernel
theorem dX3_covers_65 : decode cX3_covers 65 = .ok (.invokestatic 49, 3) := by decide +kernel
theorem dX3_covers_68 : decode cX3_covers 68 = .ok (.istore 9, 2) := by decide +kernel
theorem dX3_covers_70 : decode cX3_covers 70 = .ok (.iload 8, 2) := by decide +kernel
theorem dX3_covers_72 : decode cX3_covers 72 = .ok (.iconst 4, 1) := by decide +kernel
theorem dX3_covers_73 : decode cX3_covers 73 = .ok (.if_icmp .ge 9, 3) := by decide +kernel
theorem dX3_covers_76 : decode cX3_covers 76 = .ok (.iload 9, 2) := by decide +kernel
theorem dX3_covers_78 : decode cX3_covers 78 = .ok (.iconst 4, 1) := by decide +kernel
theorem dX3_covers_79 : decode cX3_covers 79 = .ok (.if_icmp .lt 5, 3) := by decide +kernel
theorem dX3_covers_82 : decode cX3_covers 82 = .ok (.iconst 0, 1) := by decide +kernel
theorem dX3_covers_83 : decode cX3_covers 83 = .ok (.ireturn, 1) := by decide +kernel
theorem dX3_covers_84 : decode cX3_covers 84 = .ok (.iload_n 1, 1) := by decide +kernel
theorem dX3_covers_85 : decode cX3_covers 85 = .ok (.ifCond .le 22, 3) := by decide +kernel
theorem dX3_covers_88 : decode cX3_covers 88 = .ok (.iload 8, 2) := by decide +kernel
theorem dX3_covers_90 : decode cX3_covers 90 = .ok (.invokestatic 17, 3) := by decide +kernel
theorem dX3_covers_93 : decode cX3_covers 93 = .ok (.ifCond .ne 8, 3) := by decide +kernel
theorem dX3_covers_96 : decode cX3_covers 96 = .ok (.iload 9, 2) := by decide +kernel
theorem dX3_covers_98 : decode cX3_covers 98 = .ok (.ifCond .le 7, 3) := by decide +kernel
theorem dX3_covers_101 : decode cX3_covers 101 = .ok (.iconst 1, 1) := by decide +kernel
theorem dX3_covers_102 : decode cX3_covers 102 = .ok (.goto 4, 3) := by decide +kernel
theorem dX3_covers_105 : decode cX3_covers 105 = .ok (.iconst 0, 1) := by decide +kernel
theorem dX3_covers_106 : decode cX3_covers 106 = .ok (.ireturn, 1) := by decide +kernel
theorem dX3_covers_107 : decode cX3_covers 107 = .ok (.iload 8, 2) := by decide +kernel
theorem dX3_covers_109 : decode cX3_covers 109 = .ok (.invokestatic 17, 3) := by decide +kernel
theorem dX3_covers_112 : decode cX3_covers 112 = .ok (.ifCond .ne 15, 3) := by decide +kernel
theorem dX3_covers_115 : decode cX3_covers 115 = .ok (.iload 9, 2) := by decide +kernel
theorem dX3_covers_117 : decode cX3_covers 117 = .ok (.invokestatic 17, 3) := by decide +kernel
theorem dX3_covers_120 : decode cX3_covers 120 = .ok (.ifCond .ne 7, 3) := by decide +kernel
theorem dX3_covers_123 : decode cX3_covers 123 = .ok (.iconst 1, 1) := by decide +kernel
theorem dX3_covers_124 : decode cX3_covers 124 = .ok (.goto 4, 3) := by decide +kernel
theorem dX3_covers_127 : decode cX3_covers 127 = .ok (.iconst 0, 1) := by decide +kernel
theorem dX3_covers_128 : decode cX3_covers 128 = .ok (.istore 10, 2) := by decide +kernel
theorem dX3_covers_130 : decode cX3_covers 130 = .ok (.iload 4, 2) := by decide +kernel
theorem dX3_covers_132 : decode cX3_covers 132 = .ok (.iconst 4, 1) := by decide +kernel
theorem dX3_covers_133 : decode cX3_covers 133 = .ok (.iand, 1) := by decide +kernel
theorem dX3_covers_134 : decode cX3_covers 134 = .ok (.ifCond .ne 7, 3) := by decide +kernel
theorem dX3_covers_137 : decode cX3_covers 137 = .ok (.iconst 1, 1) := by decide +kernel
theorem dX3_covers_138 : decode cX3_covers 138 = .ok (.goto 4, 3) := by decide +kernel
theorem dX3_covers_141 : decode cX3_covers 141 = .ok (.iconst 0, 1) := by decide +kernel
theorem dX3_covers_142 : decode cX3_covers 142 = .ok (.istore 11, 2) := by decide +kernel
theorem dX3_covers_144 : decode cX3_covers 144 = .ok (.iload 10, 2) := by decide +kernel
theorem dX3_covers_146 : decode cX3_covers 146 = .ok (.ifCond .ne 26, 3) := by decide +kernel
theorem dX3_covers_149 : decode cX3_covers 149 = .ok (.iload 11, 2) := by decide +kernel
theorem dX3_covers_151 : decode cX3_covers 151 = .ok (.ifCond .eq 17, 3) := by decide +kernel
theorem dX3_covers_154 : decode cX3_covers 154 = .ok (.aload_n 0, 1) := by decide +kernel
theorem dX3_covers_155 : decode cX3_covers 155 = .ok (.getfield 36, 3) := by decide +kernel
theorem dX3_covers_158 : decode cX3_covers 158 = .ok (.iload 8, 2) := by decide +kernel
theorem dX3_covers_160 : decode cX3_covers 160 = .ok (.iload 9, 2) := by decide +kernel
theorem dX3_covers_162 : decode cX3_covers 162 = .ok (.invokestatic 54, 3) := by decide +kernel
theorem dX3_covers_165 : decode cX3_covers 165 = .ok (.ifCond .ne 7, 3) := by decide +kernel
theorem dX3_covers_168 : decode cX3_covers 168 = .ok (.iconst 1, 1) := by decide +kernel
theorem dX3_covers_169 : decode cX3_covers 169 = .ok (.goto 4, 3) := by decide +kernel
theorem dX3_covers_172 : decode cX3_covers 172 = .ok (.iconst 0, 1) := by decide +kernel
theorem dX3_covers_173 : decode cX3_covers 173 = .ok (.ireturn, 1) := by decide +kernel
theorem dX3_isMiddle_0 : decode cX3_isMiddle 0 = .ok (.iload_n 0, 1) := by decide +kernel
theorem dX3_isMiddle_1 : decode cX3_isMiddle 1 = .ok (.iconst 1, 1) := by decide +kernel
theorem dX3_isMiddle_2 : decode cX3_isMiddle 2 = .ok (.if_icmp .eq 8, 3) := by decide +kernel
theorem dX3_isMiddle_5 : decode cX3_isMiddle 5 = .ok (.iload_n 0, 1) := by decide +kernel
theorem dX3_isMiddle_6 : decode cX3_isMiddle 6 = .ok (.iconst 2, 1) := by decide +kernel
theorem dX3_isMiddle_7 : decode cX3_isMiddle 7 = .ok (.if_icmp .ne 7, 3) := by decide +kernel
theorem dX3_isMiddle_10 : decode cX3_isMiddle 10 = .ok (.iconst 1, 1) := by decide +kernel
theorem dX3_isMiddle_11 : decode cX3_isMiddle 11 = .ok (.goto 4, 3) := by decide +kernel
theorem dX3_isMiddle_14 : decode cX3_isMiddle 14 = .ok (.iconst 0, 1) := by decide +kernel
theorem dX3_isMiddle_15 : decode cX3_isMiddle 15 = .ok (.ireturn, 1) := by decide +kernel
theorem dX3_isMouth_0 : decode cX3_isMouth 0 = .ok (.iload_n 0, 1) := by decide +kernel
theorem dX3_isMouth_1 : decode cX3_isMouth 1 = .ok (.tableswitch 79 0 2 #[27, 44, 61], 27) := by decide +kernel
theorem dX3_isMouth_28 : decode cX3_isMouth 28 = .ok (.iload_n 2, 1) := by decide +kernel
theorem dX3_isMouth_29 : decode cX3_isMouth 29 = .ok (.ifCond .ne 14, 3) := by decide +kernel
theorem dX3_isMouth_32 : decode cX3_isMouth 32 = .ok (.iload_n 1, 1) := by decide +kernel
theorem dX3_isMouth_33 : decode cX3_isMouth 33 = .ok (.invokestatic 17, 3) := by decide +kernel
theorem dX3_isMouth_36 : decode cX3_isMouth 36 = .ok (.ifCond .eq 7, 3) := by decide +kernel
theorem dX3_isMouth_39 : decode cX3_isMouth 39 = .ok (.iconst 1, 1) := by decide +kernel
theorem dX3_isMouth_40 : decode cX3_isMouth 40 = .ok (.goto 4, 3) := by decide +kernel
theorem dX3_isMouth_43 : decode cX3_isMouth 43 = .ok (.iconst 0, 1) := by decide +kernel
theorem dX3_isMouth_44 : decode cX3_isMouth 44 = .ok (.ireturn, 1) := by decide +kernel
theorem dX3_isMouth_45 : decode cX3_isMouth 45 = .ok (.iload_n 1, 1) := by decide +kernel
theorem dX3_isMouth_46 : decode cX3_isMouth 46 = .ok (.ifCond .ne 14, 3) := by decide +kernel
theorem dX3_isMouth_49 : decode cX3_isMouth 49 = .ok (.iload_n 2, 1) := by decide +kernel
theorem dX3_isMouth_50 : decode cX3_isMouth 50 = .ok (.invokestatic 17, 3) := by decide +kernel
theorem dX3_isMouth_53 : decode cX3_isMouth 53 = .ok (.ifCond .eq 7, 3) := by decide +kernel
theorem dX3_isMouth_56 : decode cX3_isMouth 56 = .ok (.iconst 1, 1) := by decide +kernel
theorem dX3_isMouth_57 : decode cX3_isMouth 57 = .ok (.goto 4, 3) := by decide +kernel
theorem dX3_isMouth_60 : decode cX3_isMouth 60 = .ok (.iconst 0, 1) := by decide +kernel
theorem dX3_isMouth_61 : decode cX3_isMouth 61 = .ok (.ireturn, 1) := by decide +kernel
theorem dX3_isMouth_62 : decode cX3_isMouth 62 = .ok (.iload_n 2, 1) := by decide +kernel
theorem dX3_isMouth_63 : decode cX3_isMouth 63 = .ok (.iconst 3, 1) := by decide +kernel
theorem dX3_isMouth_64 : decode cX3_isMouth 64 = .ok (.if_icmp .ne 14, 3) := by decide +kernel
theorem dX3_isMouth_67 : decode cX3_isMouth 67 = .ok (.iload_n 1, 1) := by decide +kernel
theorem dX3_isMouth_68 : decode cX3_isMouth 68 = .ok (.invokestatic 17, 3) := by decide +kernel
theorem dX3_isMouth_71 : decode cX3_isMouth 71 = .ok (.ifCond .eq 7, 3) := by decide +kernel
theorem dX3_isMouth_74 : decode cX3_isMouth 74 = .ok (.iconst 1, 1) := by decide +kernel
theorem dX3_isMouth_75 : decode cX3_isMouth 75 = .ok (.goto 4, 3) := by decide +kernel
theorem dX3_isMouth_78 : decode cX3_isMouth 78 = .ok (.iconst 0, 1) := by decide +kernel
theorem dX3_isMouth_79 : decode cX3_isMouth 79 = .ok (.ireturn, 1) := by decide +kernel
theorem dX3_isMouth_80 : decode cX3_isMouth 80 = .ok (.iload_n 1, 1) := by decide +kernel
theorem dX3_isMouth_81 : decode cX3_isMouth 81 = .ok (.iconst 3, 1) := by decide +kernel
theorem dX3_isMouth_82 : decode cX3_isMouth 82 = .ok (.if_icmp .ne 14, 3) := by decide +kernel
theorem dX3_isMouth_85 : decode cX3_isMouth 85 = .ok (.iload_n 2, 1) := by decide +kernel
theorem dX3_isMouth_86 : decode cX3_isMouth 86 = .ok (.invokestatic 17, 3) := by decide +kernel
theorem dX3_isMouth_89 : decode cX3_isMouth 89 = .ok (.ifCond .eq 7, 3) := by decide +kernel
theorem dX3_isMouth_92 : decode cX3_isMouth 92 = .ok (.iconst 1, 1) := by decide +kernel
theorem dX3_isMouth_93 : decode cX3_isMouth 93 = .ok (.goto 4, 3) := by decide +kernel
theorem dX3_isMouth_96 : decode cX3_isMouth 96 = .ok (.iconst 0, 1) := by decide +kernel
theorem dX3_isMouth_97 : decode cX3_isMouth 97 = .ok (.ireturn, 1) := by decide +kernel
theorem dX4_init_0 : decode cX4_init 0 = .ok (.aload_n 0, 1) := by decide +kernel
theorem dX4_init_1 : decode cX4_init 1 = .ok (.invokespecial 3, 3) := by decide +kernel
theorem dX4_init_4 : decode cX4_init 4 = .ok (.aload_n 0, 1) := by decide +kernel
theorem dX4_init_5 : decode cX4_init 5 = .ok (.iconst 3, 1) := by decide +kernel
theorem dX4_init_6 : decode cX4_init 6 = .ok (.anewarray 9, 3) := by decide +kernel
theorem dX4_init_9 : decode cX4_init 9 = .ok (.putfield 11, 3) := by decide +kernel
theorem dX4_init_12 : decode cX4_init 12 = .ok (.iconst 0, 1) := by decide +kernel
theorem dX4_init_13 : decode cX4_init 13 = .ok (.istore_n 1, 1) := by decide +kernel
theorem dX4_init_14 : decode cX4_init 14 = .ok (.iload_n 1, 1) := by decide +kernel
theorem dX4_init_15 : decode cX4_init 15 = .ok (.iconst 3, 1) := by decide +kernel
theorem dX4_init_16 : decode cX4_init 16 = .ok (.if_icmp .ge 22, 3) := by decide +kernel
theorem dX4_init_19 : decode cX4_init 19 = .ok (.aload_n 0, 1) := by decide +kernel
theorem dX4_init_20 : decode cX4_init 20 = .ok (.getfield 11, 3) := by decide +kernel
theorem dX4_init_23 : decode cX4_init 23 = .ok (.iload_n 1, 1) := by decide +kernel
theorem dX4_init_24 : decode cX4_init 24 = .ok (.new 9, 3) := by decide +kernel
theorem dX4_init_27 : decode cX4_init 27 = .ok (.dup, 1) := by decide +kernel
theorem dX4_init_28 : decode cX4_init 28 = .ok (.invokespecial 17, 3) := by decide +kernel
theorem dX4_init_31 : decode cX4_init 31 = .ok (.aastore, 1) := by decide +kernel
theorem dX4_init_32 : decode cX4_init 32 = .ok (.iinc 1 1, 3) := by decide +kernel
theorem dX4_init_35 : decode cX4_init 35 = .ok (.goto (-21), 3) := by decide +kernel
theorem dX4_init_38 : decode cX4_init 38 = .ok (.return_, 1) := by decide +kernel
