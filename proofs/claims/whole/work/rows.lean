section
-- ===== PART A: goes FIRST, ahead of the names: the tables' words, and 'selects' of the private methods out of them =====
/-- a private method of a class that the tables say can be made, by its rows of tables_1 -/
def lw_okq (q : MethodName × Nat) : Prop := (q.1.cls ≠ "java/lang/invoke/MethodHandle" ∧ q.1.cls ≠ "java/lang/invoke/VarHandle") ∧ Cond.instantiable q.1.cls q.2 ∈ tables_1 ∧ Cond.privateMethod q.1 ∈ tables_1 ∧ Cond.instanceMethod q.1 ∈ tables_1
theorem lw_p0 : lw_okq (⟨"MazeBoard$Game", "setUp", "()V"⟩, 16) := ⟨⟨by decide +kernel, by decide +kernel⟩, List.mem_of_getElem? (i := 19) (by decide +kernel), List.mem_of_getElem? (i := 110) (by decide +kernel), List.mem_of_getElem? (i := 111) (by decide +kernel)⟩
theorem lw_p1 : lw_okq (⟨"MazeBoard$Game", "placeActors", "()V"⟩, 16) := ⟨⟨by decide +kernel, by decide +kernel⟩, List.mem_of_getElem? (i := 19) (by decide +kernel), List.mem_of_getElem? (i := 120) (by decide +kernel), List.mem_of_getElem? (i := 121) (by decide +kernel)⟩
theorem lw_p2 : lw_okq (⟨"MazeBoard$Game", "passTime", "()V"⟩, 16) := ⟨⟨by decide +kernel, by decide +kernel⟩, List.mem_of_getElem? (i := 19) (by decide +kernel), List.mem_of_getElem? (i := 271) (by decide +kernel), List.mem_of_getElem? (i := 272) (by decide +kernel)⟩
theorem lw_p3 : lw_okq (⟨"MazeBoard$Game", "movePlayer", "(I)Z"⟩, 16) := ⟨⟨by decide +kernel, by decide +kernel⟩, List.mem_of_getElem? (i := 19) (by decide +kernel), List.mem_of_getElem? (i := 275) (by decide +kernel), List.mem_of_getElem? (i := 276) (by decide +kernel)⟩
theorem lw_p4 : lw_okq (⟨"MazeBoard$Game", "isStickOpen", "(I)Z"⟩, 16) := ⟨⟨by decide +kernel, by decide +kernel⟩, List.mem_of_getElem? (i := 19) (by decide +kernel), List.mem_of_getElem? (i := 279) (by decide +kernel), List.mem_of_getElem? (i := 280) (by decide +kernel)⟩
theorem lw_p5 : lw_okq (⟨"MazeBoard$Game", "eatHere", "()V"⟩, 16) := ⟨⟨by decide +kernel, by decide +kernel⟩, List.mem_of_getElem? (i := 19) (by decide +kernel), List.mem_of_getElem? (i := 308) (by decide +kernel), List.mem_of_getElem? (i := 309) (by decide +kernel)⟩
theorem lw_p6 : lw_okq (⟨"MazeBoard$Game", "addPoints", "(I)V"⟩, 16) := ⟨⟨by decide +kernel, by decide +kernel⟩, List.mem_of_getElem? (i := 19) (by decide +kernel), List.mem_of_getElem? (i := 316) (by decide +kernel), List.mem_of_getElem? (i := 317) (by decide +kernel)⟩
theorem lw_p7 : lw_okq (⟨"MazeBoard$Game", "frightenHunters", "()V"⟩, 16) := ⟨⟨by decide +kernel, by decide +kernel⟩, List.mem_of_getElem? (i := 19) (by decide +kernel), List.mem_of_getElem? (i := 323) (by decide +kernel), List.mem_of_getElem? (i := 324) (by decide +kernel)⟩
theorem lw_p8 : lw_okq (⟨"MazeBoard$Game", "turnAbout", "(LMazeBoard$Actor;)V"⟩, 16) := ⟨⟨by decide +kernel, by decide +kernel⟩, List.mem_of_getElem? (i := 19) (by decide +kernel), List.mem_of_getElem? (i := 327) (by decide +kernel), List.mem_of_getElem? (i := 328) (by decide +kernel)⟩
theorem lw_p9 : lw_okq (⟨"MazeBoard$Game", "moveHunter", "(I)V"⟩, 16) := ⟨⟨by decide +kernel, by decide +kernel⟩, List.mem_of_getElem? (i := 19) (by decide +kernel), List.mem_of_getElem? (i := 334) (by decide +kernel), List.mem_of_getElem? (i := 335) (by decide +kernel)⟩
theorem lw_p10 : lw_okq (⟨"MazeBoard$Game", "chooseDirection", "(LMazeBoard$Actor;I)V"⟩, 16) := ⟨⟨by decide +kernel, by decide +kernel⟩, List.mem_of_getElem? (i := 19) (by decide +kernel), List.mem_of_getElem? (i := 338) (by decide +kernel), List.mem_of_getElem? (i := 339) (by decide +kernel)⟩
theorem lw_p11 : lw_okq (⟨"MazeBoard$Game", "drawNumber", "()I"⟩, 16) := ⟨⟨by decide +kernel, by decide +kernel⟩, List.mem_of_getElem? (i := 19) (by decide +kernel), List.mem_of_getElem? (i := 342) (by decide +kernel), List.mem_of_getElem? (i := 343) (by decide +kernel)⟩
theorem lw_p12 : lw_okq (⟨"MazeBoard$Game", "firstOpenFrom", "(ILMazeBoard$Actor;)I"⟩, 16) := ⟨⟨by decide +kernel, by decide +kernel⟩, List.mem_of_getElem? (i := 19) (by decide +kernel), List.mem_of_getElem? (i := 347) (by decide +kernel), List.mem_of_getElem? (i := 348) (by decide +kernel)⟩
theorem lw_p13 : lw_okq (⟨"MazeBoard$Game", "setAim", "(LMazeBoard$Actor;I)V"⟩, 16) := ⟨⟨by decide +kernel, by decide +kernel⟩, List.mem_of_getElem? (i := 19) (by decide +kernel), List.mem_of_getElem? (i := 351) (by decide +kernel), List.mem_of_getElem? (i := 352) (by decide +kernel)⟩
theorem lw_p14 : lw_okq (⟨"MazeBoard$Game", "isScatter", "()Z"⟩, 16) := ⟨⟨by decide +kernel, by decide +kernel⟩, List.mem_of_getElem? (i := 19) (by decide +kernel), List.mem_of_getElem? (i := 359) (by decide +kernel), List.mem_of_getElem? (i := 360) (by decide +kernel)⟩
theorem lw_p15 : lw_okq (⟨"MazeBoard$Game", "isNearPlayer", "(LMazeBoard$Actor;)Z"⟩, 16) := ⟨⟨by decide +kernel, by decide +kernel⟩, List.mem_of_getElem? (i := 19) (by decide +kernel), List.mem_of_getElem? (i := 363) (by decide +kernel), List.mem_of_getElem? (i := 364) (by decide +kernel)⟩
def lw_privs_1 : List (MethodName × Nat) := [(⟨"MazeBoard$Game", "setUp", "()V"⟩, 16), (⟨"MazeBoard$Game", "placeActors", "()V"⟩, 16), (⟨"MazeBoard$Game", "passTime", "()V"⟩, 16), (⟨"MazeBoard$Game", "movePlayer", "(I)Z"⟩, 16), (⟨"MazeBoard$Game", "isStickOpen", "(I)Z"⟩, 16), (⟨"MazeBoard$Game", "eatHere", "()V"⟩, 16), (⟨"MazeBoard$Game", "addPoints", "(I)V"⟩, 16), (⟨"MazeBoard$Game", "frightenHunters", "()V"⟩, 16), (⟨"MazeBoard$Game", "turnAbout", "(LMazeBoard$Actor;)V"⟩, 16), (⟨"MazeBoard$Game", "moveHunter", "(I)V"⟩, 16), (⟨"MazeBoard$Game", "chooseDirection", "(LMazeBoard$Actor;I)V"⟩, 16), (⟨"MazeBoard$Game", "drawNumber", "()I"⟩, 16), (⟨"MazeBoard$Game", "firstOpenFrom", "(ILMazeBoard$Actor;)I"⟩, 16), (⟨"MazeBoard$Game", "setAim", "(LMazeBoard$Actor;I)V"⟩, 16), (⟨"MazeBoard$Game", "isScatter", "()Z"⟩, 16), (⟨"MazeBoard$Game", "isNearPlayer", "(LMazeBoard$Actor;)Z"⟩, 16)]
theorem lw_r1 : ∀ q ∈ lw_privs_1, lw_okq q := List.forall_mem_cons.mpr ⟨lw_p0, List.forall_mem_cons.mpr ⟨lw_p1, List.forall_mem_cons.mpr ⟨lw_p2, List.forall_mem_cons.mpr ⟨lw_p3, List.forall_mem_cons.mpr ⟨lw_p4, List.forall_mem_cons.mpr ⟨lw_p5, List.forall_mem_cons.mpr ⟨lw_p6, List.forall_mem_cons.mpr ⟨lw_p7, List.forall_mem_cons.mpr ⟨lw_p8, List.forall_mem_cons.mpr ⟨lw_p9, List.forall_mem_cons.mpr ⟨lw_p10, List.forall_mem_cons.mpr ⟨lw_p11, List.forall_mem_cons.mpr ⟨lw_p12, List.forall_mem_cons.mpr ⟨lw_p13, List.forall_mem_cons.mpr ⟨lw_p14, List.forall_mem_cons.mpr ⟨lw_p15, fun _ h => absurd h List.not_mem_nil⟩⟩⟩⟩⟩⟩⟩⟩⟩⟩⟩⟩⟩⟩⟩⟩
theorem lw_p16 : lw_okq (⟨"MazeBoard$Game", "aimAtPlayer", "(LMazeBoard$Actor;I)V"⟩, 16) := ⟨⟨by decide +kernel, by decide +kernel⟩, List.mem_of_getElem? (i := 19) (by decide +kernel), List.mem_of_getElem? (i := 370) (by decide +kernel), List.mem_of_getElem? (i := 371) (by decide +kernel)⟩
theorem lw_p17 : lw_okq (⟨"MazeBoard$Game", "nearestToAim", "(LMazeBoard$Actor;)I"⟩, 16) := ⟨⟨by decide +kernel, by decide +kernel⟩, List.mem_of_getElem? (i := 19) (by decide +kernel), List.mem_of_getElem? (i := 380) (by decide +kernel), List.mem_of_getElem? (i := 381) (by decide +kernel)⟩
theorem lw_p18 : lw_okq (⟨"MazeBoard$Game", "meetHunters", "()V"⟩, 16) := ⟨⟨by decide +kernel, by decide +kernel⟩, List.mem_of_getElem? (i := 19) (by decide +kernel), List.mem_of_getElem? (i := 393) (by decide +kernel), List.mem_of_getElem? (i := 394) (by decide +kernel)⟩
theorem lw_p19 : lw_okq (⟨"MazeBoard$Game", "eatHunter", "(LMazeBoard$Actor;)V"⟩, 16) := ⟨⟨by decide +kernel, by decide +kernel⟩, List.mem_of_getElem? (i := 19) (by decide +kernel), List.mem_of_getElem? (i := 402) (by decide +kernel), List.mem_of_getElem? (i := 403) (by decide +kernel)⟩
theorem lw_p20 : lw_okq (⟨"MazeBoard$Game", "loseLife", "()V"⟩, 16) := ⟨⟨by decide +kernel, by decide +kernel⟩, List.mem_of_getElem? (i := 19) (by decide +kernel), List.mem_of_getElem? (i := 406) (by decide +kernel), List.mem_of_getElem? (i := 407) (by decide +kernel)⟩
theorem lw_p21 : lw_okq (⟨"MazeBoard", "reset", "()V"⟩, 6) := ⟨⟨by decide +kernel, by decide +kernel⟩, List.mem_of_getElem? (i := 11) (by decide +kernel), List.mem_of_getElem? (i := 429) (by decide +kernel), List.mem_of_getElem? (i := 430) (by decide +kernel)⟩
theorem lw_p22 : lw_okq (⟨"MazeBoardModel", "draw", "()V"⟩, 31) := ⟨⟨by decide +kernel, by decide +kernel⟩, List.mem_of_getElem? (i := 499) (by decide +kernel), List.mem_of_getElem? (i := 505) (by decide +kernel), List.mem_of_getElem? (i := 506) (by decide +kernel)⟩
theorem lw_p23 : lw_okq (⟨"MazeBoardModel", "both", "(IIII)V"⟩, 31) := ⟨⟨by decide +kernel, by decide +kernel⟩, List.mem_of_getElem? (i := 499) (by decide +kernel), List.mem_of_getElem? (i := 509) (by decide +kernel), List.mem_of_getElem? (i := 510) (by decide +kernel)⟩
theorem lw_p24 : lw_okq (⟨"MazeBoardModel", "fill", "()V"⟩, 31) := ⟨⟨by decide +kernel, by decide +kernel⟩, List.mem_of_getElem? (i := 499) (by decide +kernel), List.mem_of_getElem? (i := 513) (by decide +kernel), List.mem_of_getElem? (i := 514) (by decide +kernel)⟩
theorem lw_p25 : lw_okq (⟨"MazeBoardModel", "place", "()V"⟩, 31) := ⟨⟨by decide +kernel, by decide +kernel⟩, List.mem_of_getElem? (i := 499) (by decide +kernel), List.mem_of_getElem? (i := 517) (by decide +kernel), List.mem_of_getElem? (i := 518) (by decide +kernel)⟩
theorem lw_p26 : lw_okq (⟨"MazeBoardModel", "put", "(IIIII)V"⟩, 31) := ⟨⟨by decide +kernel, by decide +kernel⟩, List.mem_of_getElem? (i := 499) (by decide +kernel), List.mem_of_getElem? (i := 521) (by decide +kernel), List.mem_of_getElem? (i := 522) (by decide +kernel)⟩
theorem lw_p27 : lw_okq (⟨"MazeBoardModel", "frame", "()V"⟩, 31) := ⟨⟨by decide +kernel, by decide +kernel⟩, List.mem_of_getElem? (i := 499) (by decide +kernel), List.mem_of_getElem? (i := 642) (by decide +kernel), List.mem_of_getElem? (i := 643) (by decide +kernel)⟩
theorem lw_p28 : lw_okq (⟨"MazeBoardModel", "play", "()V"⟩, 31) := ⟨⟨by decide +kernel, by decide +kernel⟩, List.mem_of_getElem? (i := 499) (by decide +kernel), List.mem_of_getElem? (i := 646) (by decide +kernel), List.mem_of_getElem? (i := 647) (by decide +kernel)⟩
theorem lw_p29 : lw_okq (⟨"MazeBoardModel", "calm", "()V"⟩, 31) := ⟨⟨by decide +kernel, by decide +kernel⟩, List.mem_of_getElem? (i := 499) (by decide +kernel), List.mem_of_getElem? (i := 650) (by decide +kernel), List.mem_of_getElem? (i := 651) (by decide +kernel)⟩
theorem lw_p30 : lw_okq (⟨"MazeBoardModel", "player", "()V"⟩, 31) := ⟨⟨by decide +kernel, by decide +kernel⟩, List.mem_of_getElem? (i := 499) (by decide +kernel), List.mem_of_getElem? (i := 654) (by decide +kernel), List.mem_of_getElem? (i := 655) (by decide +kernel)⟩
theorem lw_p31 : lw_okq (⟨"MazeBoardModel", "open", "(II)Z"⟩, 31) := ⟨⟨by decide +kernel, by decide +kernel⟩, List.mem_of_getElem? (i := 499) (by decide +kernel), List.mem_of_getElem? (i := 658) (by decide +kernel), List.mem_of_getElem? (i := 659) (by decide +kernel)⟩
def lw_privs_2 : List (MethodName × Nat) := [(⟨"MazeBoard$Game", "aimAtPlayer", "(LMazeBoard$Actor;I)V"⟩, 16), (⟨"MazeBoard$Game", "nearestToAim", "(LMazeBoard$Actor;)I"⟩, 16), (⟨"MazeBoard$Game", "meetHunters", "()V"⟩, 16), (⟨"MazeBoard$Game", "eatHunter", "(LMazeBoard$Actor;)V"⟩, 16), (⟨"MazeBoard$Game", "loseLife", "()V"⟩, 16), (⟨"MazeBoard", "reset", "()V"⟩, 6), (⟨"MazeBoardModel", "draw", "()V"⟩, 31), (⟨"MazeBoardModel", "both", "(IIII)V"⟩, 31), (⟨"MazeBoardModel", "fill", "()V"⟩, 31), (⟨"MazeBoardModel", "place", "()V"⟩, 31), (⟨"MazeBoardModel", "put", "(IIIII)V"⟩, 31), (⟨"MazeBoardModel", "frame", "()V"⟩, 31), (⟨"MazeBoardModel", "play", "()V"⟩, 31), (⟨"MazeBoardModel", "calm", "()V"⟩, 31), (⟨"MazeBoardModel", "player", "()V"⟩, 31), (⟨"MazeBoardModel", "open", "(II)Z"⟩, 31)]
theorem lw_r2 : ∀ q ∈ lw_privs_2, lw_okq q := List.forall_mem_cons.mpr ⟨lw_p16, List.forall_mem_cons.mpr ⟨lw_p17, List.forall_mem_cons.mpr ⟨lw_p18, List.forall_mem_cons.mpr ⟨lw_p19, List.forall_mem_cons.mpr ⟨lw_p20, List.forall_mem_cons.mpr ⟨lw_p21, List.forall_mem_cons.mpr ⟨lw_p22, List.forall_mem_cons.mpr ⟨lw_p23, List.forall_mem_cons.mpr ⟨lw_p24, List.forall_mem_cons.mpr ⟨lw_p25, List.forall_mem_cons.mpr ⟨lw_p26, List.forall_mem_cons.mpr ⟨lw_p27, List.forall_mem_cons.mpr ⟨lw_p28, List.forall_mem_cons.mpr ⟨lw_p29, List.forall_mem_cons.mpr ⟨lw_p30, List.forall_mem_cons.mpr ⟨lw_p31, fun _ h => absurd h List.not_mem_nil⟩⟩⟩⟩⟩⟩⟩⟩⟩⟩⟩⟩⟩⟩⟩⟩
theorem lw_p32 : lw_okq (⟨"MazeBoardModel", "nextRow", "(II)I"⟩, 31) := ⟨⟨by decide +kernel, by decide +kernel⟩, List.mem_of_getElem? (i := 499) (by decide +kernel), List.mem_of_getElem? (i := 662) (by decide +kernel), List.mem_of_getElem? (i := 663) (by decide +kernel)⟩
theorem lw_p33 : lw_okq (⟨"MazeBoardModel", "nextColumn", "(II)I"⟩, 31) := ⟨⟨by decide +kernel, by decide +kernel⟩, List.mem_of_getElem? (i := 499) (by decide +kernel), List.mem_of_getElem? (i := 669) (by decide +kernel), List.mem_of_getElem? (i := 670) (by decide +kernel)⟩
theorem lw_p34 : lw_okq (⟨"MazeBoardModel", "step", "(I)V"⟩, 31) := ⟨⟨by decide +kernel, by decide +kernel⟩, List.mem_of_getElem? (i := 499) (by decide +kernel), List.mem_of_getElem? (i := 681) (by decide +kernel), List.mem_of_getElem? (i := 682) (by decide +kernel)⟩
theorem lw_p35 : lw_okq (⟨"MazeBoardModel", "points", "(I)V"⟩, 31) := ⟨⟨by decide +kernel, by decide +kernel⟩, List.mem_of_getElem? (i := 499) (by decide +kernel), List.mem_of_getElem? (i := 685) (by decide +kernel), List.mem_of_getElem? (i := 686) (by decide +kernel)⟩
theorem lw_p36 : lw_okq (⟨"MazeBoardModel", "scare", "()V"⟩, 31) := ⟨⟨by decide +kernel, by decide +kernel⟩, List.mem_of_getElem? (i := 499) (by decide +kernel), List.mem_of_getElem? (i := 689) (by decide +kernel), List.mem_of_getElem? (i := 690) (by decide +kernel)⟩
theorem lw_p37 : lw_okq (⟨"MazeBoardModel", "hunter", "(I)V"⟩, 31) := ⟨⟨by decide +kernel, by decide +kernel⟩, List.mem_of_getElem? (i := 499) (by decide +kernel), List.mem_of_getElem? (i := 693) (by decide +kernel), List.mem_of_getElem? (i := 694) (by decide +kernel)⟩
theorem lw_p38 : lw_okq (⟨"MazeBoardModel", "choose", "(I)V"⟩, 31) := ⟨⟨by decide +kernel, by decide +kernel⟩, List.mem_of_getElem? (i := 499) (by decide +kernel), List.mem_of_getElem? (i := 697) (by decide +kernel), List.mem_of_getElem? (i := 698) (by decide +kernel)⟩
theorem lw_p39 : lw_okq (⟨"MazeBoardModel", "drawn", "()I"⟩, 31) := ⟨⟨by decide +kernel, by decide +kernel⟩, List.mem_of_getElem? (i := 499) (by decide +kernel), List.mem_of_getElem? (i := 701) (by decide +kernel), List.mem_of_getElem? (i := 702) (by decide +kernel)⟩
theorem lw_p40 : lw_okq (⟨"MazeBoardModel", "aim", "(IZ)I"⟩, 31) := ⟨⟨by decide +kernel, by decide +kernel⟩, List.mem_of_getElem? (i := 499) (by decide +kernel), List.mem_of_getElem? (i := 706) (by decide +kernel), List.mem_of_getElem? (i := 707) (by decide +kernel)⟩
theorem lw_p41 : lw_okq (⟨"MazeBoardModel", "scatters", "()Z"⟩, 31) := ⟨⟨by decide +kernel, by decide +kernel⟩, List.mem_of_getElem? (i := 499) (by decide +kernel), List.mem_of_getElem? (i := 716) (by decide +kernel), List.mem_of_getElem? (i := 717) (by decide +kernel)⟩
theorem lw_p42 : lw_okq (⟨"MazeBoardModel", "meet", "()V"⟩, 31) := ⟨⟨by decide +kernel, by decide +kernel⟩, List.mem_of_getElem? (i := 499) (by decide +kernel), List.mem_of_getElem? (i := 725) (by decide +kernel), List.mem_of_getElem? (i := 726) (by decide +kernel)⟩
theorem lw_p43 : lw_okq (⟨"MazeBoardModel", "met", "(I)Z"⟩, 31) := ⟨⟨by decide +kernel, by decide +kernel⟩, List.mem_of_getElem? (i := 499) (by decide +kernel), List.mem_of_getElem? (i := 729) (by decide +kernel), List.mem_of_getElem? (i := 730) (by decide +kernel)⟩
theorem lw_p44 : lw_okq (⟨"MazeBoardModel", "left", "()I"⟩, 31) := ⟨⟨by decide +kernel, by decide +kernel⟩, List.mem_of_getElem? (i := 499) (by decide +kernel), List.mem_of_getElem? (i := 733) (by decide +kernel), List.mem_of_getElem? (i := 734) (by decide +kernel)⟩
theorem lw_p45 : lw_okq (⟨"MazeBoardModel", "hear", "()V"⟩, 31) := ⟨⟨by decide +kernel, by decide +kernel⟩, List.mem_of_getElem? (i := 499) (by decide +kernel), List.mem_of_getElem? (i := 737) (by decide +kernel), List.mem_of_getElem? (i := 738) (by decide +kernel)⟩
theorem lw_p46 : lw_okq (⟨"MazeBoardModel", "voice", "(IFI)V"⟩, 31) := ⟨⟨by decide +kernel, by decide +kernel⟩, List.mem_of_getElem? (i := 499) (by decide +kernel), List.mem_of_getElem? (i := 742) (by decide +kernel), List.mem_of_getElem? (i := 743) (by decide +kernel)⟩
theorem lw_p47 : lw_okq (⟨"MazeBoardModel", "reset", "()V"⟩, 31) := ⟨⟨by decide +kernel, by decide +kernel⟩, List.mem_of_getElem? (i := 499) (by decide +kernel), List.mem_of_getElem? (i := 748) (by decide +kernel), List.mem_of_getElem? (i := 749) (by decide +kernel)⟩
def lw_privs_3 : List (MethodName × Nat) := [(⟨"MazeBoardModel", "nextRow", "(II)I"⟩, 31), (⟨"MazeBoardModel", "nextColumn", "(II)I"⟩, 31), (⟨"MazeBoardModel", "step", "(I)V"⟩, 31), (⟨"MazeBoardModel", "points", "(I)V"⟩, 31), (⟨"MazeBoardModel", "scare", "()V"⟩, 31), (⟨"MazeBoardModel", "hunter", "(I)V"⟩, 31), (⟨"MazeBoardModel", "choose", "(I)V"⟩, 31), (⟨"MazeBoardModel", "drawn", "()I"⟩, 31), (⟨"MazeBoardModel", "aim", "(IZ)I"⟩, 31), (⟨"MazeBoardModel", "scatters", "()Z"⟩, 31), (⟨"MazeBoardModel", "meet", "()V"⟩, 31), (⟨"MazeBoardModel", "met", "(I)Z"⟩, 31), (⟨"MazeBoardModel", "left", "()I"⟩, 31), (⟨"MazeBoardModel", "hear", "()V"⟩, 31), (⟨"MazeBoardModel", "voice", "(IFI)V"⟩, 31), (⟨"MazeBoardModel", "reset", "()V"⟩, 31)]
theorem lw_r3 : ∀ q ∈ lw_privs_3, lw_okq q := List.forall_mem_cons.mpr ⟨lw_p32, List.forall_mem_cons.mpr ⟨lw_p33, List.forall_mem_cons.mpr ⟨lw_p34, List.forall_mem_cons.mpr ⟨lw_p35, List.forall_mem_cons.mpr ⟨lw_p36, List.forall_mem_cons.mpr ⟨lw_p37, List.forall_mem_cons.mpr ⟨lw_p38, List.forall_mem_cons.mpr ⟨lw_p39, List.forall_mem_cons.mpr ⟨lw_p40, List.forall_mem_cons.mpr ⟨lw_p41, List.forall_mem_cons.mpr ⟨lw_p42, List.forall_mem_cons.mpr ⟨lw_p43, List.forall_mem_cons.mpr ⟨lw_p44, List.forall_mem_cons.mpr ⟨lw_p45, List.forall_mem_cons.mpr ⟨lw_p46, List.forall_mem_cons.mpr ⟨lw_p47, fun _ h => absurd h List.not_mem_nil⟩⟩⟩⟩⟩⟩⟩⟩⟩⟩⟩⟩⟩⟩⟩⟩
theorem lw_p48 : lw_okq (⟨"MazeBoardModel", "sprite", "(III)I"⟩, 31) := ⟨⟨by decide +kernel, by decide +kernel⟩, List.mem_of_getElem? (i := 499) (by decide +kernel), List.mem_of_getElem? (i := 772) (by decide +kernel), List.mem_of_getElem? (i := 773) (by decide +kernel)⟩
def lw_privs_4 : List (MethodName × Nat) := [(⟨"MazeBoardModel", "sprite", "(III)I"⟩, 31)]
theorem lw_r4 : ∀ q ∈ lw_privs_4, lw_okq q := List.forall_mem_cons.mpr ⟨lw_p48, fun _ h => absurd h List.not_mem_nil⟩
def lw_privs : List (MethodName × Nat) := lw_privs_1 ++ (lw_privs_2 ++ (lw_privs_3 ++ (lw_privs_4)))
def lw_tbl : List Cond := k2_sels lw_privs ++ tables_1
theorem lw_privs_ok : ∀ q ∈ lw_privs, lw_okq q := by
  show ∀ q ∈ lw_privs_1 ++ (lw_privs_2 ++ (lw_privs_3 ++ (lw_privs_4))), lw_okq q
  exact List.forall_mem_append.mpr ⟨lw_r1, List.forall_mem_append.mpr ⟨lw_r2, List.forall_mem_append.mpr ⟨lw_r3, lw_r4⟩⟩⟩
end
section
/-! names, fields, types, codes (after the printed names of this claim) -/
def RX0 : String := "MazeBoard$Actor"
def TX0 : u_T := fun k => match k with
  | 0 => ("MazeBoard$Actor", "column", "I", false)
  | 1 => ("MazeBoard$Actor", "row", "I", false)
  | 2 => ("MazeBoard$Actor", "direction", "I", false)
  | 3 => ("MazeBoard$Actor", "progress", "F", false)
  | 4 => ("MazeBoard$Actor", "frightened", "Z", false)
  | 5 => ("MazeBoard$Actor", "leaving", "Z", false)
  | 6 => ("MazeBoard$Actor", "resting", "I", false)
  | 7 => ("MazeBoard$Actor", "columnBefore", "I", false)
  | 8 => ("MazeBoard$Actor", "rowBefore", "I", false)
  | 9 => ("MazeBoard$Actor", "aimColumn", "I", false)
  | _ => ("MazeBoard$Actor", "aimRow", "I", false)
def tyX0 : Nat → FieldType := fun k => match k with
  | 0 => .int
  | 1 => .int
  | 2 => .int
  | 3 => .float
  | 4 => .boolean
  | 5 => .boolean
  | 6 => .int
  | 7 => .int
  | 8 => .int
  | 9 => .int
  | _ => .int
abbrev wsX00 : List Cond := u_ws RX0 TX0 11
theorem nmX0 : ∀ a, a < 11 → ∀ b, b < 11 → a ≠ b → (TX0 a).2.1 ≠ (TX0 b).2.1 := by decide +kernel
theorem tyX0_ok : ∀ k, k < 11 → parseFieldDescriptor (TX0 k).2.2.1 = some (tyX0 k) := by decide +kernel
abbrev cX0_init : ByteArray := prog_2_method_1_code
def yX0_init : MethodName := ⟨RX0, "<init>", "()V"⟩
abbrev cX0_place : ByteArray := prog_2_method_2_code
def yX0_place : MethodName := ⟨RX0, "place", "(IIII)V"⟩
abbrev cX0_rememberCell : ByteArray := prog_2_method_3_code
def yX0_rememberCell : MethodName := ⟨RX0, "rememberCell", "()V"⟩
abbrev cX0_enterNextCell : ByteArray := prog_2_method_4_code
def yX0_enterNextCell : MethodName := ⟨RX0, "enterNextCell", "()V"⟩
abbrev cX0_isAt : ByteArray := prog_2_method_5_code
def yX0_isAt : MethodName := ⟨RX0, "isAt", "(II)Z"⟩
abbrev cX0_meets : ByteArray := prog_2_method_6_code
def yX0_meets : MethodName := ⟨RX0, "meets", "(LMazeBoard$Actor;)Z"⟩
abbrev cX0_aimAt : ByteArray := prog_2_method_7_code
def yX0_aimAt : MethodName := ⟨RX0, "aimAt", "(II)V"⟩
def RX1 : String := "MazeBoard$Game"
def TX1 : u_T := fun k => match k with
  | 0 => ("MazeBoard$Game", "maze", "LMazeBoard$Maze;", true)
  | 1 => ("MazeBoard$Game", "actors", "[LMazeBoard$Actor;", true)
  | 2 => ("MazeBoard$Game", "player", "LMazeBoard$Actor;", true)
  | 3 => ("MazeBoard$Game", "on", "Z", false)
  | 4 => ("MazeBoard$Game", "score", "I", false)
  | 5 => ("MazeBoard$Game", "best", "I", false)
  | 6 => ("MazeBoard$Game", "lives", "I", false)
  | 7 => ("MazeBoard$Game", "level", "I", false)
  | 8 => ("MazeBoard$Game", "chain", "I", false)
  | 9 => ("MazeBoard$Game", "rewarded", "Z", false)
  | 10 => ("MazeBoard$Game", "fright", "I", false)
  | 11 => ("MazeBoard$Game", "modeTime", "I", false)
  | 12 => ("MazeBoard$Game", "generator", "I", false)
  | 13 => ("MazeBoard$Game", "dotEaten", "Z", false)
  | 14 => ("MazeBoard$Game", "prizeEaten", "Z", false)
  | _ => ("MazeBoard$Game", "playerDied", "Z", false)
def tyX1 : Nat → FieldType := fun k => match k with
  | 0 => .object "MazeBoard$Maze"
  | 1 => .array (.object "MazeBoard$Actor")
  | 2 => .object "MazeBoard$Actor"
  | 3 => .boolean
  | 4 => .int
  | 5 => .int
  | 6 => .int
  | 7 => .int
  | 8 => .int
  | 9 => .boolean
  | 10 => .int
  | 11 => .int
  | 12 => .int
  | 13 => .boolean
  | 14 => .boolean
  | _ => .boolean
abbrev wsX10 : List Cond := u_ws RX1 TX1 16
theorem nmX1 : ∀ a, a < 16 → ∀ b, b < 16 → a ≠ b → (TX1 a).2.1 ≠ (TX1 b).2.1 := by decide +kernel
theorem tyX1_ok : ∀ k, k < 16 → parseFieldDescriptor (TX1 k).2.2.1 = some (tyX1 k) := by decide +kernel
abbrev cX1_init : ByteArray := prog_3_method_1_code
def yX1_init : MethodName := ⟨RX1, "<init>", "()V"⟩
abbrev cX1_clear : ByteArray := prog_3_method_2_code
def yX1_clear : MethodName := ⟨RX1, "clear", "()V"⟩
abbrev cX1_begin : ByteArray := prog_3_method_3_code
def yX1_begin : MethodName := ⟨RX1, "begin", "()V"⟩
abbrev cX1_setUp : ByteArray := prog_3_method_4_code
def yX1_setUp : MethodName := ⟨RX1, "setUp", "()V"⟩
abbrev cX1_placeActors : ByteArray := prog_3_method_5_code
def yX1_placeActors : MethodName := ⟨RX1, "placeActors", "()V"⟩
abbrev cX1_playFrame : ByteArray := prog_3_method_6_code
def yX1_playFrame : MethodName := ⟨RX1, "playFrame", "(I)V"⟩
abbrev cX1_passTime : ByteArray := prog_3_method_7_code
def yX1_passTime : MethodName := ⟨RX1, "passTime", "()V"⟩
abbrev cX1_isScatter : ByteArray := prog_3_method_8_code
def yX1_isScatter : MethodName := ⟨RX1, "isScatter", "()Z"⟩
abbrev cX1_movePlayer : ByteArray := prog_3_method_9_code
def yX1_movePlayer : MethodName := ⟨RX1, "movePlayer", "(I)Z"⟩
abbrev cX1_isStickOpen : ByteArray := prog_3_method_10_code
def yX1_isStickOpen : MethodName := ⟨RX1, "isStickOpen", "(I)Z"⟩
abbrev cX1_eatHere : ByteArray := prog_3_method_11_code
def yX1_eatHere : MethodName := ⟨RX1, "eatHere", "()V"⟩
abbrev cX1_addPoints : ByteArray := prog_3_method_12_code
def yX1_addPoints : MethodName := ⟨RX1, "addPoints", "(I)V"⟩
abbrev cX1_frightenHunters : ByteArray := prog_3_method_13_code
def yX1_frightenHunters : MethodName := ⟨RX1, "frightenHunters", "()V"⟩
abbrev cX1_turnAbout : ByteArray := prog_3_method_14_code
def yX1_turnAbout : MethodName := ⟨RX1, "turnAbout", "(LMazeBoard$Actor;)V"⟩
abbrev cX1_moveHunter : ByteArray := prog_3_method_15_code
def yX1_moveHunter : MethodName := ⟨RX1, "moveHunter", "(I)V"⟩
abbrev cX1_chooseDirection : ByteArray := prog_3_method_16_code
def yX1_chooseDirection : MethodName := ⟨RX1, "chooseDirection", "(LMazeBoard$Actor;I)V"⟩
abbrev cX1_drawNumber : ByteArray := prog_3_method_17_code
def yX1_drawNumber : MethodName := ⟨RX1, "drawNumber", "()I"⟩
abbrev cX1_firstOpenFrom : ByteArray := prog_3_method_18_code
def yX1_firstOpenFrom : MethodName := ⟨RX1, "firstOpenFrom", "(ILMazeBoard$Actor;)I"⟩
abbrev cX1_nearestToAim : ByteArray := prog_3_method_19_code
def yX1_nearestToAim : MethodName := ⟨RX1, "nearestToAim", "(LMazeBoard$Actor;)I"⟩
abbrev cX1_setAim : ByteArray := prog_3_method_20_code
def yX1_setAim : MethodName := ⟨RX1, "setAim", "(LMazeBoard$Actor;I)V"⟩
abbrev cX1_isNearPlayer : ByteArray := prog_3_method_21_code
def yX1_isNearPlayer : MethodName := ⟨RX1, "isNearPlayer", "(LMazeBoard$Actor;)Z"⟩
abbrev cX1_aimAtPlayer : ByteArray := prog_3_method_22_code
def yX1_aimAtPlayer : MethodName := ⟨RX1, "aimAtPlayer", "(LMazeBoard$Actor;I)V"⟩
abbrev cX1_meetHunters : ByteArray := prog_3_method_23_code
def yX1_meetHunters : MethodName := ⟨RX1, "meetHunters", "()V"⟩
abbrev cX1_eatHunter : ByteArray := prog_3_method_24_code
def yX1_eatHunter : MethodName := ⟨RX1, "eatHunter", "(LMazeBoard$Actor;)V"⟩
abbrev cX1_loseLife : ByteArray := prog_3_method_25_code
def yX1_loseLife : MethodName := ⟨RX1, "loseLife", "()V"⟩
abbrev cX1_humPitch : ByteArray := prog_3_method_26_code
def yX1_humPitch : MethodName := ⟨RX1, "humPitch", "()I"⟩
def RX2 : String := "MazeBoard$Maze"
def TX2 : u_T := fun k => match k with
  | 0 => ("MazeBoard$Maze", "cells", "[B", true)
  | _ => ("MazeBoard$Maze", "left", "I", false)
def tyX2 : Nat → FieldType := fun k => match k with
  | 0 => .array .byte
  | _ => .int
abbrev wsX20 : List Cond := u_ws RX2 TX2 2
theorem nmX2 : ∀ a, a < 2 → ∀ b, b < 2 → a ≠ b → (TX2 a).2.1 ≠ (TX2 b).2.1 := by decide +kernel
theorem tyX2_ok : ∀ k, k < 2 → parseFieldDescriptor (TX2 k).2.2.1 = some (tyX2 k) := by decide +kernel
abbrev cX2_init : ByteArray := prog_4_method_1_code
def yX2_init : MethodName := ⟨RX2, "<init>", "()V"⟩
abbrev cX2_refill : ByteArray := prog_4_method_2_code
def yX2_refill : MethodName := ⟨RX2, "refill", "()V"⟩
abbrev cX2_whatIs : ByteArray := prog_4_method_3_code
def yX2_whatIs : MethodName := ⟨RX2, "whatIs", "(II)I"⟩
abbrev cX2_isOpen : ByteArray := prog_4_method_4_code
def yX2_isOpen : MethodName := ⟨RX2, "isOpen", "(LMazeBoard$Actor;I)Z"⟩
abbrev cX2_eat : ByteArray := prog_4_method_5_code
def yX2_eat : MethodName := ⟨RX2, "eat", "(II)I"⟩
def RX3 : String := "MazeBoard$Picture"
def TX3 : u_T := fun k => match k with
  | _ => ("", "", "", false)
def tyX3 : Nat → FieldType := fun k => match k with
  | _ => .int
abbrev wsX30 : List Cond := u_ws RX3 TX3 0
theorem nmX3 : ∀ a, a < 0 → ∀ b, b < 0 → a ≠ b → (TX3 a).2.1 ≠ (TX3 b).2.1 := by decide +kernel
theorem tyX3_ok : ∀ k, k < 0 → parseFieldDescriptor (TX3 k).2.2.1 = some (tyX3 k) := by decide +kernel
abbrev cX3_tileColour : ByteArray := prog_5_method_2_code
def yX3_tileColour : MethodName := ⟨RX3, "tileColour", "(LMazeBoard$Maze;III)I"⟩
abbrev cX3_spriteColour : ByteArray := prog_5_method_3_code
def yX3_spriteColour : MethodName := ⟨RX3, "spriteColour", "(LMazeBoard$Actor;I)I"⟩
abbrev cX3_covers : ByteArray := prog_5_method_4_code
def yX3_covers : MethodName := ⟨RX3, "covers", "(LMazeBoard$Actor;IIII)Z"⟩
abbrev cX3_isMiddle : ByteArray := prog_5_method_5_code
def yX3_isMiddle : MethodName := ⟨RX3, "isMiddle", "(I)Z"⟩
abbrev cX3_isMouth : ByteArray := prog_5_method_6_code
def yX3_isMouth : MethodName := ⟨RX3, "isMouth", "(III)Z"⟩
def RX4 : String := "MazeBoard$Speaker"
def TX4 : u_T := fun k => match k with
  | _ => ("MazeBoard$Speaker", "voices", "[LMazeBoard$Voice;", true)
def tyX4 : Nat → FieldType := fun k => match k with
  | _ => .array (.object "MazeBoard$Voice")
abbrev wsX40 : List Cond := u_ws RX4 TX4 1
theorem nmX4 : ∀ a, a < 1 → ∀ b, b < 1 → a ≠ b → (TX4 a).2.1 ≠ (TX4 b).2.1 := by decide +kernel
theorem tyX4_ok : ∀ k, k < 1 → parseFieldDescriptor (TX4 k).2.2.1 = some (tyX4 k) := by decide +kernel
abbrev cX4_init : ByteArray := prog_6_method_1_code
def yX4_init : MethodName := ⟨RX4, "<init>", "()V"⟩
abbrev cX4_silence : ByteArray := prog_6_method_2_code
def yX4_silence : MethodName := ⟨RX4, "silence", "()V"⟩
abbrev cX4_playFrame : ByteArray := prog_6_method_3_code
def yX4_playFrame : MethodName := ⟨RX4, "playFrame", "(LMazeBoard$Game;)V"⟩
def RX5 : String := "MazeBoard$Voice"
def TX5 : u_T := fun k => match k with
  | 0 => ("MazeBoard$Voice", "accumulator", "S", false)
  | 1 => ("MazeBoard$Voice", "pitch", "I", false)
  | _ => ("MazeBoard$Voice", "loudness", "F", false)
def tyX5 : Nat → FieldType := fun k => match k with
  | 0 => .short
  | 1 => .int
  | _ => .float
abbrev wsX50 : List Cond := u_ws RX5 TX5 3
theorem nmX5 : ∀ a, a < 3 → ∀ b, b < 3 → a ≠ b → (TX5 a).2.1 ≠ (TX5 b).2.1 := by decide +kernel
theorem tyX5_ok : ∀ k, k < 3 → parseFieldDescriptor (TX5 k).2.2.1 = some (tyX5 k) := by decide +kernel
abbrev cX5_init : ByteArray := prog_7_method_1_code
def yX5_init : MethodName := ⟨RX5, "<init>", "()V"⟩
abbrev cX5_passFrame : ByteArray := prog_7_method_2_code
def yX5_passFrame : MethodName := ⟨RX5, "passFrame", "()V"⟩
abbrev cX5_ring : ByteArray := prog_7_method_3_code
def yX5_ring : MethodName := ⟨RX5, "ring", "(FI)V"⟩
abbrev cX5_silence : ByteArray := prog_7_method_4_code
def yX5_silence : MethodName := ⟨RX5, "silence", "()V"⟩
abbrev cX5_sample : ByteArray := prog_7_method_5_code
def yX5_sample : MethodName := ⟨RX5, "sample", "()F"⟩
def RX6 : String := "MazeBoard"
def TX6 : u_T := fun k => match k with
  | 0 => ("MazeBoard", "game", "LMazeBoard$Game;", true)
  | 1 => ("MazeBoard", "speaker", "LMazeBoard$Speaker;", true)
  | 2 => ("MazeBoard", "coins", "I", false)
  | 3 => ("MazeBoard", "stickDirection", "I", false)
  | 4 => ("MazeBoard", "watchdog", "I", false)
  | _ => ("MazeBoard", "frameCount", "I", false)
def tyX6 : Nat → FieldType := fun k => match k with
  | 0 => .object "MazeBoard$Game"
  | 1 => .object "MazeBoard$Speaker"
  | 2 => .int
  | 3 => .int
  | 4 => .int
  | _ => .int
abbrev wsX60 : List Cond := u_ws RX6 TX6 6
theorem nmX6 : ∀ a, a < 6 → ∀ b, b < 6 → a ≠ b → (TX6 a).2.1 ≠ (TX6 b).2.1 := by decide +kernel
theorem tyX6_ok : ∀ k, k < 6 → parseFieldDescriptor (TX6 k).2.2.1 = some (tyX6 k) := by decide +kernel
abbrev cX6_init : ByteArray := prog_1_method_1_code
def yX6_init : MethodName := ⟨RX6, "<init>", "()V"⟩
abbrev cX6_coin : ByteArray := prog_1_method_2_code
def yX6_coin : MethodName := ⟨RX6, "coin", "()Z"⟩
abbrev cX6_start : ByteArray := prog_1_method_3_code
def yX6_start : MethodName := ⟨RX6, "start", "()Z"⟩
abbrev cX6_stick : ByteArray := prog_1_method_4_code
def yX6_stick : MethodName := ⟨RX6, "stick", "(I)Z"⟩
abbrev cX6_kick : ByteArray := prog_1_method_5_code
def yX6_kick : MethodName := ⟨RX6, "kick", "()V"⟩
abbrev cX6_frames : ByteArray := prog_1_method_6_code
def yX6_frames : MethodName := ⟨RX6, "frames", "(I)I"⟩
abbrev cX6_look : ByteArray := prog_1_method_7_code
def yX6_look : MethodName := ⟨RX6, "look", "(I)I"⟩
abbrev cX6_actor : ByteArray := prog_1_method_8_code
def yX6_actor : MethodName := ⟨RX6, "actor", "(II)I"⟩
abbrev cX6_progress : ByteArray := prog_1_method_9_code
def yX6_progress : MethodName := ⟨RX6, "progress", "(I)F"⟩
abbrev cX6_cell : ByteArray := prog_1_method_10_code
def yX6_cell : MethodName := ⟨RX6, "cell", "(II)I"⟩
abbrev cX6_point : ByteArray := prog_1_method_11_code
def yX6_point : MethodName := ⟨RX6, "point", "(II)I"⟩
abbrev cX6_volume : ByteArray := prog_1_method_12_code
def yX6_volume : MethodName := ⟨RX6, "volume", "(I)F"⟩
abbrev cX6_sound : ByteArray := prog_1_method_13_code
def yX6_sound : MethodName := ⟨RX6, "sound", "()F"⟩
abbrev cX6_reset : ByteArray := prog_1_method_14_code
def yX6_reset : MethodName := ⟨RX6, "reset", "()V"⟩
abbrev cX6_nextColumn : ByteArray := prog_1_method_15_code
def yX6_nextColumn : MethodName := ⟨RX6, "nextColumn", "(II)I"⟩
abbrev cX6_nextRow : ByteArray := prog_1_method_16_code
def yX6_nextRow : MethodName := ⟨RX6, "nextRow", "(II)I"⟩
abbrev cX6_columnStep : ByteArray := prog_1_method_17_code
def yX6_columnStep : MethodName := ⟨RX6, "columnStep", "(I)I"⟩
abbrev cX6_rowStep : ByteArray := prog_1_method_18_code
def yX6_rowStep : MethodName := ⟨RX6, "rowStep", "(I)I"⟩
abbrev cX6_opposite : ByteArray := prog_1_method_19_code
def yX6_opposite : MethodName := ⟨RX6, "opposite", "(I)I"⟩
abbrev cX6_distance : ByteArray := prog_1_method_20_code
def yX6_distance : MethodName := ⟨RX6, "distance", "(IIII)I"⟩
def RX7 : String := "MazeBoardModel"
def TX7 : u_T := fun k => match k with
  | 0 => ("MazeBoardModel", "plan", "[I", true)
  | 1 => ("MazeBoardModel", "cells", "[I", true)
  | 2 => ("MazeBoardModel", "coins", "I", false)
  | 3 => ("MazeBoardModel", "game", "Z", false)
  | 4 => ("MazeBoardModel", "score", "I", false)
  | 5 => ("MazeBoardModel", "best", "I", false)
  | 6 => ("MazeBoardModel", "bonus", "Z", false)
  | 7 => ("MazeBoardModel", "lives", "I", false)
  | 8 => ("MazeBoardModel", "level", "I", false)
  | 9 => ("MazeBoardModel", "fright", "I", false)
  | 10 => ("MazeBoardModel", "time", "I", false)
  | 11 => ("MazeBoardModel", "chain", "I", false)
  | 12 => ("MazeBoardModel", "watch", "I", false)
  | 13 => ("MazeBoardModel", "count", "I", false)
  | 14 => ("MazeBoardModel", "draws", "I", false)
  | 15 => ("MazeBoardModel", "stick", "I", false)
  | 16 => ("MazeBoardModel", "column", "[I", true)
  | 17 => ("MazeBoardModel", "row", "[I", true)
  | 18 => ("MazeBoardModel", "direction", "[I", true)
  | 19 => ("MazeBoardModel", "progress", "[F", true)
  | 20 => ("MazeBoardModel", "afraid", "[Z", true)
  | 21 => ("MazeBoardModel", "resting", "[I", true)
  | 22 => ("MazeBoardModel", "leaving", "[Z", true)
  | 23 => ("MazeBoardModel", "columnThen", "[I", true)
  | 24 => ("MazeBoardModel", "rowThen", "[I", true)
  | 25 => ("MazeBoardModel", "accumulator", "[I", true)
  | 26 => ("MazeBoardModel", "pitch", "[I", true)
  | 27 => ("MazeBoardModel", "volume", "[F", true)
  | 28 => ("MazeBoardModel", "ate", "Z", false)
  | 29 => ("MazeBoardModel", "feast", "Z", false)
  | _ => ("MazeBoardModel", "died", "Z", false)
def tyX7 : Nat → FieldType := fun k => match k with
  | 0 => .array .int
  | 1 => .array .int
  | 2 => .int
  | 3 => .boolean
  | 4 => .int
  | 5 => .int
  | 6 => .boolean
  | 7 => .int
  | 8 => .int
  | 9 => .int
  | 10 => .int
  | 11 => .int
  | 12 => .int
  | 13 => .int
  | 14 => .int
  | 15 => .int
  | 16 => .array .int
  | 17 => .array .int
  | 18 => .array .int
  | 19 => .array .float
  | 20 => .array .boolean
  | 21 => .array .int
  | 22 => .array .boolean
  | 23 => .array .int
  | 24 => .array .int
  | 25 => .array .int
  | 26 => .array .int
  | 27 => .array .float
  | 28 => .boolean
  | 29 => .boolean
  | _ => .boolean
abbrev wsX70 : List Cond := u_ws RX7 TX7 31
theorem nmX7 : ∀ a, a < 31 → ∀ b, b < 31 → a ≠ b → (TX7 a).2.1 ≠ (TX7 b).2.1 := by decide +kernel
theorem tyX7_ok : ∀ k, k < 31 → parseFieldDescriptor (TX7 k).2.2.1 = some (tyX7 k) := by decide +kernel
abbrev cX7_init : ByteArray := prog_9_method_1_code
def yX7_init : MethodName := ⟨RX7, "<init>", "()V"⟩
abbrev cX7_both : ByteArray := prog_9_method_2_code
def yX7_both : MethodName := ⟨RX7, "both", "(IIII)V"⟩
abbrev cX7_draw : ByteArray := prog_9_method_3_code
def yX7_draw : MethodName := ⟨RX7, "draw", "()V"⟩
abbrev cX7_fill : ByteArray := prog_9_method_4_code
def yX7_fill : MethodName := ⟨RX7, "fill", "()V"⟩
abbrev cX7_put : ByteArray := prog_9_method_5_code
def yX7_put : MethodName := ⟨RX7, "put", "(IIIII)V"⟩
abbrev cX7_place : ByteArray := prog_9_method_6_code
def yX7_place : MethodName := ⟨RX7, "place", "()V"⟩
abbrev cX7_across : ByteArray := prog_9_method_7_code
def yX7_across : MethodName := ⟨RX7, "across", "(I)I"⟩
abbrev cX7_down : ByteArray := prog_9_method_8_code
def yX7_down : MethodName := ⟨RX7, "down", "(I)I"⟩
abbrev cX7_around : ByteArray := prog_9_method_9_code
def yX7_around : MethodName := ⟨RX7, "around", "(I)I"⟩
abbrev cX7_nextColumn : ByteArray := prog_9_method_10_code
def yX7_nextColumn : MethodName := ⟨RX7, "nextColumn", "(II)I"⟩
abbrev cX7_nextRow : ByteArray := prog_9_method_11_code
def yX7_nextRow : MethodName := ⟨RX7, "nextRow", "(II)I"⟩
abbrev cX7_open : ByteArray := prog_9_method_12_code
def yX7_open : MethodName := ⟨RX7, "open", "(II)Z"⟩
abbrev cX7_step : ByteArray := prog_9_method_13_code
def yX7_step : MethodName := ⟨RX7, "step", "(I)V"⟩
abbrev cX7_points : ByteArray := prog_9_method_14_code
def yX7_points : MethodName := ⟨RX7, "points", "(I)V"⟩
abbrev cX7_scatters : ByteArray := prog_9_method_15_code
def yX7_scatters : MethodName := ⟨RX7, "scatters", "()Z"⟩
abbrev cX7_calm : ByteArray := prog_9_method_16_code
def yX7_calm : MethodName := ⟨RX7, "calm", "()V"⟩
abbrev cX7_player : ByteArray := prog_9_method_17_code
def yX7_player : MethodName := ⟨RX7, "player", "()V"⟩
abbrev cX7_scare : ByteArray := prog_9_method_18_code
def yX7_scare : MethodName := ⟨RX7, "scare", "()V"⟩
abbrev cX7_hunter : ByteArray := prog_9_method_19_code
def yX7_hunter : MethodName := ⟨RX7, "hunter", "(I)V"⟩
abbrev cX7_distance : ByteArray := prog_9_method_20_code
def yX7_distance : MethodName := ⟨RX7, "distance", "(IIII)I"⟩
abbrev cX7_cornerColumn : ByteArray := prog_9_method_21_code
def yX7_cornerColumn : MethodName := ⟨RX7, "cornerColumn", "(I)I"⟩
abbrev cX7_cornerRow : ByteArray := prog_9_method_22_code
def yX7_cornerRow : MethodName := ⟨RX7, "cornerRow", "(I)I"⟩
abbrev cX7_choose : ByteArray := prog_9_method_23_code
def yX7_choose : MethodName := ⟨RX7, "choose", "(I)V"⟩
abbrev cX7_drawn : ByteArray := prog_9_method_24_code
def yX7_drawn : MethodName := ⟨RX7, "drawn", "()I"⟩
abbrev cX7_aim : ByteArray := prog_9_method_25_code
def yX7_aim : MethodName := ⟨RX7, "aim", "(IZ)I"⟩
abbrev cX7_met : ByteArray := prog_9_method_26_code
def yX7_met : MethodName := ⟨RX7, "met", "(I)Z"⟩
abbrev cX7_meet : ByteArray := prog_9_method_27_code
def yX7_meet : MethodName := ⟨RX7, "meet", "()V"⟩
abbrev cX7_left : ByteArray := prog_9_method_28_code
def yX7_left : MethodName := ⟨RX7, "left", "()I"⟩
abbrev cX7_play : ByteArray := prog_9_method_29_code
def yX7_play : MethodName := ⟨RX7, "play", "()V"⟩
abbrev cX7_voice : ByteArray := prog_9_method_30_code
def yX7_voice : MethodName := ⟨RX7, "voice", "(IFI)V"⟩
abbrev cX7_hear : ByteArray := prog_9_method_31_code
def yX7_hear : MethodName := ⟨RX7, "hear", "()V"⟩
abbrev cX7_frame : ByteArray := prog_9_method_32_code
def yX7_frame : MethodName := ⟨RX7, "frame", "()V"⟩
abbrev cX7_reset : ByteArray := prog_9_method_33_code
def yX7_reset : MethodName := ⟨RX7, "reset", "()V"⟩
abbrev cX7_coin : ByteArray := prog_9_method_34_code
def yX7_coin : MethodName := ⟨RX7, "coin", "()Z"⟩
abbrev cX7_start : ByteArray := prog_9_method_35_code
def yX7_start : MethodName := ⟨RX7, "start", "()Z"⟩
abbrev cX7_stick : ByteArray := prog_9_method_36_code
def yX7_stick : MethodName := ⟨RX7, "stick", "(I)Z"⟩
abbrev cX7_kick : ByteArray := prog_9_method_37_code
def yX7_kick : MethodName := ⟨RX7, "kick", "()V"⟩
abbrev cX7_frames : ByteArray := prog_9_method_38_code
def yX7_frames : MethodName := ⟨RX7, "frames", "(I)I"⟩
abbrev cX7_look : ByteArray := prog_9_method_39_code
def yX7_look : MethodName := ⟨RX7, "look", "(I)I"⟩
abbrev cX7_actor : ByteArray := prog_9_method_40_code
def yX7_actor : MethodName := ⟨RX7, "actor", "(II)I"⟩
abbrev cX7_progress : ByteArray := prog_9_method_41_code
def yX7_progress : MethodName := ⟨RX7, "progress", "(I)F"⟩
abbrev cX7_cell : ByteArray := prog_9_method_42_code
def yX7_cell : MethodName := ⟨RX7, "cell", "(II)I"⟩
abbrev cX7_sprite : ByteArray := prog_9_method_43_code
def yX7_sprite : MethodName := ⟨RX7, "sprite", "(III)I"⟩
abbrev cX7_point : ByteArray := prog_9_method_44_code
def yX7_point : MethodName := ⟨RX7, "point", "(II)I"⟩
abbrev cX7_volume : ByteArray := prog_9_method_45_code
def yX7_volume : MethodName := ⟨RX7, "volume", "(I)F"⟩
abbrev cX7_sound : ByteArray := prog_9_method_46_code
def yX7_sound : MethodName := ⟨RX7, "sound", "()F"⟩
def RJ9 : String := "java/lang/Math"
def TJ9 : u_T := fun k => match k with
  | _ => ("", "", "", false)
def tyJ9 : Nat → FieldType := fun k => match k with
  | _ => .int
abbrev wsJ90 : List Cond := u_ws RJ9 TJ9 0
theorem nmJ9 : ∀ a, a < 0 → ∀ b, b < 0 → a ≠ b → (TJ9 a).2.1 ≠ (TJ9 b).2.1 := by decide +kernel
theorem tyJ9_ok : ∀ k, k < 0 → parseFieldDescriptor (TJ9 k).2.2.1 = some (tyJ9 k) := by decide +kernel
abbrev cJ9_floorMod_7cf53 : ByteArray := prog_10_method_50_code
def yJ9_floorMod_7cf53 : MethodName := ⟨RJ9, "floorMod", "(II)I"⟩
abbrev cJ9_max_7cf53 : ByteArray := prog_10_method_65_code
def yJ9_max_7cf53 : MethodName := ⟨RJ9, "max", "(II)I"⟩
abbrev cJ9_min_7cf53 : ByteArray := prog_10_method_69_code
def yJ9_min_7cf53 : MethodName := ⟨RJ9, "min", "(II)I"⟩
def RL : String := "MazeBoardLaw"
abbrev cL_law : ByteArray := code
def yL_law : MethodName := ⟨RL, "law", "([I)Z"⟩
abbrev vwCl : List vw_C := [(RX0, TX0, 11), (RX1, TX1, 16), (RX2, TX2, 2), (RX4, TX4, 1), (RX5, TX5, 3), (RX6, TX6, 6), (RX7, TX7, 31)]
end
section
/-! the words that every method has: all of the table that last -/
def BG : List Cond := lw_tbl.filter goodWord
theorem BG_of {w : Cond} (h : w ∈ lw_tbl) (g : goodWord w = true) : w ∈ BG := List.mem_filter.mpr ⟨h, g⟩
theorem BG_tbl {w : Cond} (h : w ∈ BG) : w ∈ lw_tbl := (List.mem_filter.mp h).1
theorem BG_good {w : Cond} (h : w ∈ BG) : goodWord w = true := (List.mem_filter.mp h).2
theorem mt_0 {w : Cond} (h : w ∈ k2_sels lw_privs) : w ∈ lw_tbl := List.mem_append_left _ h
theorem mt_1 {w : Cond} (h : w ∈ tables_1_1) : w ∈ lw_tbl := List.mem_append_right _ (List.mem_append_left _ h)
theorem mt_2 {w : Cond} (h : w ∈ tables_1_2) : w ∈ lw_tbl := List.mem_append_right _ (List.mem_append_right _ (List.mem_append_left _ h))
theorem mt_3 {w : Cond} (h : w ∈ tables_1_3) : w ∈ lw_tbl := List.mem_append_right _ (List.mem_append_right _ (List.mem_append_right _ (List.mem_append_left _ h)))
theorem mt_4 {w : Cond} (h : w ∈ tables_1_4) : w ∈ lw_tbl := List.mem_append_right _ (List.mem_append_right _ (List.mem_append_right _ (List.mem_append_right _ h)))
theorem gd_in {a : List Cond} {w : Cond} (ha : ∀ w ∈ BG, w ∈ a) (h : w ∈ BG) : w ∈ a ∧ ((w.onTables && w.keeps) = true ∨ ∃ ty, w = .arrayClass ty) := ⟨ha w h, good_of_word (BG_good h)⟩
theorem gd_C {a : List Cond} {c2 : Cond} (ha : ∀ w ∈ BG, w ∈ a) (h2 : c2 ∈ BG) : GoodIn a (c2 :: BG) := fun w h => (List.mem_cons.mp h).elim (fun e => e ▸ gd_in ha h2) (gd_in ha)
theorem gd_V {a : List Cond} {own C : String} {idx : Nat} {y : MethodName} {c2 : Cond} (ha : ∀ w ∈ BG, w ∈ a) (h1 : Cond.methodLink own idx y ∈ BG) (h2 : Cond.instanceMethod y ∈ BG) (h3 : Cond.selects C y y ∈ BG) (h4 : Cond.initialized C ∈ BG) (h5 : c2 ∈ BG) : GoodIn a (wsV own idx C y (c2 :: BG)) := by
  intro w h
  unfold wsV at h
  rcases List.mem_append.mp h with h | h
  · simp only [List.mem_cons, List.not_mem_nil, or_false] at h
    rcases h with h | h | h | h <;> (rw [h]; exact gd_in ha (by assumption))
  · exact gd_C ha h5 w h
theorem gd_S {a : List Cond} {own : String} {idx : Nat} {y : MethodName} {c2 : Cond} (ha : ∀ w ∈ BG, w ∈ a) (h1 : Cond.methodLink own idx y ∈ BG) (h2 : Cond.static y ∈ BG) (h4 : Cond.initialized y.cls ∈ BG) (h5 : c2 ∈ BG) : GoodIn a (va_wsS own idx y (c2 :: BG)) := by
  intro w h
  unfold va_wsS at h
  rcases List.mem_append.mp h with h | h
  · simp only [List.mem_cons, List.not_mem_nil, or_false] at h
    rcases h with h | h | h <;> (rw [h]; exact gd_in ha (by assumption))
  · exact gd_C ha h5 w h
theorem mw_1_0 : (Jvm.Cond.initialized "MazeBoardLaw") ∈ BG := BG_of (mt_1 (List.mem_of_getElem? (i := 0) rfl)) rfl
theorem mw_1_1 : (Jvm.Cond.initialized "MazeBoard") ∈ BG := BG_of (mt_1 (List.mem_of_getElem? (i := 1) rfl)) rfl
theorem mw_1_2 : (Jvm.Cond.initialized "MazeBoard$Game") ∈ BG := BG_of (mt_1 (List.mem_of_getElem? (i := 2) rfl)) rfl
theorem mw_1_3 : (Jvm.Cond.initialized "MazeBoard$Maze") ∈ BG := BG_of (mt_1 (List.mem_of_getElem? (i := 3) rfl)) rfl
theorem mw_1_4 : (Jvm.Cond.initialized "MazeBoard$Actor") ∈ BG := BG_of (mt_1 (List.mem_of_getElem? (i := 4) rfl)) rfl
theorem mw_1_5 : (Jvm.Cond.initialized "MazeBoard$Speaker") ∈ BG := BG_of (mt_1 (List.mem_of_getElem? (i := 5) rfl)) rfl
theorem mw_1_6 : (Jvm.Cond.initialized "MazeBoard$Voice") ∈ BG := BG_of (mt_1 (List.mem_of_getElem? (i := 6) rfl)) rfl
theorem mw_1_7 : (Jvm.Cond.initialized "MazeBoardModel") ∈ BG := BG_of (mt_1 (List.mem_of_getElem? (i := 7) rfl)) rfl
theorem mw_1_8 : (Jvm.Cond.initialized "java/lang/Math") ∈ BG := BG_of (mt_1 (List.mem_of_getElem? (i := 8) rfl)) rfl
theorem mw_1_9 : (Jvm.Cond.initialized "MazeBoard$Picture") ∈ BG := BG_of (mt_1 (List.mem_of_getElem? (i := 9) rfl)) rfl
theorem mw_1_10 : (Jvm.Cond.classLink "MazeBoardLaw" (7 : Nat) "MazeBoard") ∈ BG := BG_of (mt_1 (List.mem_of_getElem? (i := 10) rfl)) rfl
theorem mw_1_11 : (Jvm.Cond.instantiable "MazeBoard" (6 : Nat)) ∈ BG := BG_of (mt_1 (List.mem_of_getElem? (i := 11) rfl)) rfl
theorem mw_1_12 : (Jvm.Cond.methodLink "MazeBoardLaw" (9 : Nat) ({ cls := "MazeBoard", name := "<init>", desc := "()V" } : Jvm.MethodName)) ∈ BG := BG_of (mt_1 (List.mem_of_getElem? (i := 12) rfl)) rfl
theorem mw_1_13 : (Jvm.Cond.instanceMethod ({ cls := "MazeBoard", name := "<init>", desc := "()V" } : Jvm.MethodName)) ∈ BG := BG_of (mt_1 (List.mem_of_getElem? (i := 13) rfl)) rfl
theorem mw_1_14 : (Jvm.Cond.code ({ cls := "MazeBoard", name := "<init>", desc := "()V" } : Jvm.MethodName) prog_1_method_1_code (1 : Nat) (Option.none : Option Jvm.ClassFile.FieldType)) ∈ BG := BG_of (mt_1 (List.mem_of_getElem? (i := 14) rfl)) rfl
theorem mw_1_15 : (Jvm.Cond.methodLink "MazeBoard" (1 : Nat) ({ cls := "java/lang/Object", name := "<init>", desc := "()V" } : Jvm.MethodName)) ∈ BG := BG_of (mt_1 (List.mem_of_getElem? (i := 15) rfl)) rfl
theorem mw_1_16 : (Jvm.Cond.instanceMethod ({ cls := "java/lang/Object", name := "<init>", desc := "()V" } : Jvm.MethodName)) ∈ BG := BG_of (mt_1 (List.mem_of_getElem? (i := 16) rfl)) rfl
theorem mw_1_17 : (Jvm.Cond.code ({ cls := "java/lang/Object", name := "<init>", desc := "()V" } : Jvm.MethodName) object_method_1_code (1 : Nat) (Option.none : Option Jvm.ClassFile.FieldType)) ∈ BG := BG_of (mt_1 (List.mem_of_getElem? (i := 17) rfl)) rfl
theorem mw_1_18 : (Jvm.Cond.classLink "MazeBoard" (7 : Nat) "MazeBoard$Game") ∈ BG := BG_of (mt_1 (List.mem_of_getElem? (i := 18) rfl)) rfl
theorem mw_1_19 : (Jvm.Cond.instantiable "MazeBoard$Game" (16 : Nat)) ∈ BG := BG_of (mt_1 (List.mem_of_getElem? (i := 19) rfl)) rfl
theorem mw_1_20 : (Jvm.Cond.methodLink "MazeBoard" (9 : Nat) ({ cls := "MazeBoard$Game", name := "<init>", desc := "()V" } : Jvm.MethodName)) ∈ BG := BG_of (mt_1 (List.mem_of_getElem? (i := 20) rfl)) rfl
theorem mw_1_21 : (Jvm.Cond.instanceMethod ({ cls := "MazeBoard$Game", name := "<init>", desc := "()V" } : Jvm.MethodName)) ∈ BG := BG_of (mt_1 (List.mem_of_getElem? (i := 21) rfl)) rfl
theorem mw_1_22 : (Jvm.Cond.code ({ cls := "MazeBoard$Game", name := "<init>", desc := "()V" } : Jvm.MethodName) prog_3_method_1_code (2 : Nat) (Option.none : Option Jvm.ClassFile.FieldType)) ∈ BG := BG_of (mt_1 (List.mem_of_getElem? (i := 22) rfl)) rfl
theorem mw_1_23 : (Jvm.Cond.methodLink "MazeBoard$Game" (3 : Nat) ({ cls := "java/lang/Object", name := "<init>", desc := "()V" } : Jvm.MethodName)) ∈ BG := BG_of (mt_1 (List.mem_of_getElem? (i := 23) rfl)) rfl
theorem mw_1_24 : (Jvm.Cond.classLink "MazeBoard$Game" (9 : Nat) "MazeBoard$Maze") ∈ BG := BG_of (mt_1 (List.mem_of_getElem? (i := 24) rfl)) rfl
theorem mw_1_25 : (Jvm.Cond.instantiable "MazeBoard$Maze" (2 : Nat)) ∈ BG := BG_of (mt_1 (List.mem_of_getElem? (i := 25) rfl)) rfl
theorem mw_1_26 : (Jvm.Cond.methodLink "MazeBoard$Game" (11 : Nat) ({ cls := "MazeBoard$Maze", name := "<init>", desc := "()V" } : Jvm.MethodName)) ∈ BG := BG_of (mt_1 (List.mem_of_getElem? (i := 26) rfl)) rfl
theorem mw_1_27 : (Jvm.Cond.instanceMethod ({ cls := "MazeBoard$Maze", name := "<init>", desc := "()V" } : Jvm.MethodName)) ∈ BG := BG_of (mt_1 (List.mem_of_getElem? (i := 27) rfl)) rfl
theorem mw_1_28 : (Jvm.Cond.code ({ cls := "MazeBoard$Maze", name := "<init>", desc := "()V" } : Jvm.MethodName) prog_4_method_1_code (1 : Nat) (Option.none : Option Jvm.ClassFile.FieldType)) ∈ BG := BG_of (mt_1 (List.mem_of_getElem? (i := 28) rfl)) rfl
theorem mw_1_29 : (Jvm.Cond.methodLink "MazeBoard$Maze" (3 : Nat) ({ cls := "java/lang/Object", name := "<init>", desc := "()V" } : Jvm.MethodName)) ∈ BG := BG_of (mt_1 (List.mem_of_getElem? (i := 29) rfl)) rfl
theorem mw_1_30 : (Jvm.Cond.fieldLink "MazeBoard$Maze" (9 : Nat) "MazeBoard$Maze" "cells" "[B") ∈ BG := BG_of (mt_1 (List.mem_of_getElem? (i := 30) rfl)) rfl
theorem mw_1_31 : (Jvm.Cond.fieldLink "MazeBoard$Maze" (15 : Nat) "MazeBoard$Maze" "left" "I") ∈ BG := BG_of (mt_1 (List.mem_of_getElem? (i := 31) rfl)) rfl
theorem mw_1_32 : (Jvm.Cond.fieldLink "MazeBoard$Game" (103 : Nat) "MazeBoard$Maze" "left" "I") ∈ BG := BG_of (mt_1 (List.mem_of_getElem? (i := 32) rfl)) rfl
theorem mw_1_33 : (Jvm.Cond.fieldLink "MazeBoard" (69 : Nat) "MazeBoard$Maze" "left" "I") ∈ BG := BG_of (mt_1 (List.mem_of_getElem? (i := 33) rfl)) rfl
theorem mw_1_34 : (Jvm.Cond.laysFinal "MazeBoard$Maze" "MazeBoard$Maze" "cells" "[B") ∈ BG := BG_of (mt_1 (List.mem_of_getElem? (i := 34) rfl)) rfl
theorem mw_1_36 : (Jvm.Cond.lays "MazeBoard$Maze" "MazeBoard$Maze" "left" "I") ∈ BG := BG_of (mt_1 (List.mem_of_getElem? (i := 36) rfl)) rfl
theorem mw_1_39 : (Jvm.Cond.arrayClass Jvm.ClassFile.FieldType.byte) ∈ BG := BG_of (mt_1 (List.mem_of_getElem? (i := 39) rfl)) rfl
theorem mw_1_40 : (Jvm.Cond.classLink "MazeBoard$Game" (18 : Nat) "MazeBoard$Actor") ∈ BG := BG_of (mt_1 (List.mem_of_getElem? (i := 40) rfl)) rfl
theorem mw_1_42 : (Jvm.Cond.instantiable "MazeBoard$Actor" (11 : Nat)) ∈ BG := BG_of (mt_1 (List.mem_of_getElem? (i := 42) rfl)) rfl
theorem mw_1_44 : (Jvm.Cond.instanceMethod ({ cls := "MazeBoard$Actor", name := "<init>", desc := "()V" } : Jvm.MethodName)) ∈ BG := BG_of (mt_1 (List.mem_of_getElem? (i := 44) rfl)) rfl
theorem mw_1_45 : (Jvm.Cond.code ({ cls := "MazeBoard$Actor", name := "<init>", desc := "()V" } : Jvm.MethodName) prog_2_method_1_code (1 : Nat) (Option.none : Option Jvm.ClassFile.FieldType)) ∈ BG := BG_of (mt_1 (List.mem_of_getElem? (i := 45) rfl)) rfl
theorem mw_1_46 : (Jvm.Cond.methodLink "MazeBoard$Actor" (1 : Nat) ({ cls := "java/lang/Object", name := "<init>", desc := "()V" } : Jvm.MethodName)) ∈ BG := BG_of (mt_1 (List.mem_of_getElem? (i := 46) rfl)) rfl
theorem mw_1_47 : (Jvm.Cond.fieldLink "MazeBoard$Actor" (7 : Nat) "MazeBoard$Actor" "column" "I") ∈ BG := BG_of (mt_1 (List.mem_of_getElem? (i := 47) rfl)) rfl
theorem mw_1_48 : (Jvm.Cond.fieldLink "MazeBoard$Maze" (22 : Nat) "MazeBoard$Actor" "column" "I") ∈ BG := BG_of (mt_1 (List.mem_of_getElem? (i := 48) rfl)) rfl
theorem mw_1_49 : (Jvm.Cond.fieldLink "MazeBoard$Picture" (32 : Nat) "MazeBoard$Actor" "column" "I") ∈ BG := BG_of (mt_1 (List.mem_of_getElem? (i := 49) rfl)) rfl
theorem mw_1_50 : (Jvm.Cond.fieldLink "MazeBoard" (87 : Nat) "MazeBoard$Actor" "column" "I") ∈ BG := BG_of (mt_1 (List.mem_of_getElem? (i := 50) rfl)) rfl
theorem mw_1_51 : (Jvm.Cond.fieldLink "MazeBoard$Game" (134 : Nat) "MazeBoard$Actor" "column" "I") ∈ BG := BG_of (mt_1 (List.mem_of_getElem? (i := 51) rfl)) rfl
theorem mw_1_52 : (Jvm.Cond.fieldLink "MazeBoard$Actor" (13 : Nat) "MazeBoard$Actor" "row" "I") ∈ BG := BG_of (mt_1 (List.mem_of_getElem? (i := 52) rfl)) rfl
theorem mw_1_53 : (Jvm.Cond.fieldLink "MazeBoard$Maze" (31 : Nat) "MazeBoard$Actor" "row" "I") ∈ BG := BG_of (mt_1 (List.mem_of_getElem? (i := 53) rfl)) rfl
theorem mw_1_54 : (Jvm.Cond.fieldLink "MazeBoard$Picture" (43 : Nat) "MazeBoard$Actor" "row" "I") ∈ BG := BG_of (mt_1 (List.mem_of_getElem? (i := 54) rfl)) rfl
theorem mw_1_55 : (Jvm.Cond.fieldLink "MazeBoard" (92 : Nat) "MazeBoard$Actor" "row" "I") ∈ BG := BG_of (mt_1 (List.mem_of_getElem? (i := 55) rfl)) rfl
theorem mw_1_56 : (Jvm.Cond.fieldLink "MazeBoard$Game" (137 : Nat) "MazeBoard$Actor" "row" "I") ∈ BG := BG_of (mt_1 (List.mem_of_getElem? (i := 56) rfl)) rfl
theorem mw_1_57 : (Jvm.Cond.fieldLink "MazeBoard$Actor" (16 : Nat) "MazeBoard$Actor" "direction" "I") ∈ BG := BG_of (mt_1 (List.mem_of_getElem? (i := 57) rfl)) rfl
theorem mw_1_58 : (Jvm.Cond.fieldLink "MazeBoard$Picture" (36 : Nat) "MazeBoard$Actor" "direction" "I") ∈ BG := BG_of (mt_1 (List.mem_of_getElem? (i := 58) rfl)) rfl
theorem mw_1_59 : (Jvm.Cond.fieldLink "MazeBoard" (95 : Nat) "MazeBoard$Actor" "direction" "I") ∈ BG := BG_of (mt_1 (List.mem_of_getElem? (i := 59) rfl)) rfl
theorem mw_1_60 : (Jvm.Cond.fieldLink "MazeBoard$Game" (116 : Nat) "MazeBoard$Actor" "direction" "I") ∈ BG := BG_of (mt_1 (List.mem_of_getElem? (i := 60) rfl)) rfl
theorem mw_1_61 : (Jvm.Cond.fieldLink "MazeBoard$Actor" (19 : Nat) "MazeBoard$Actor" "progress" "F") ∈ BG := BG_of (mt_1 (List.mem_of_getElem? (i := 61) rfl)) rfl
theorem mw_1_62 : (Jvm.Cond.fieldLink "MazeBoard$Picture" (27 : Nat) "MazeBoard$Actor" "progress" "F") ∈ BG := BG_of (mt_1 (List.mem_of_getElem? (i := 62) rfl)) rfl
theorem mw_1_63 : (Jvm.Cond.fieldLink "MazeBoard$Game" (109 : Nat) "MazeBoard$Actor" "progress" "F") ∈ BG := BG_of (mt_1 (List.mem_of_getElem? (i := 63) rfl)) rfl
theorem mw_1_64 : (Jvm.Cond.fieldLink "MazeBoard" (107 : Nat) "MazeBoard$Actor" "progress" "F") ∈ BG := BG_of (mt_1 (List.mem_of_getElem? (i := 64) rfl)) rfl
theorem mw_1_65 : (Jvm.Cond.fieldLink "MazeBoard$Actor" (23 : Nat) "MazeBoard$Actor" "frightened" "Z") ∈ BG := BG_of (mt_1 (List.mem_of_getElem? (i := 65) rfl)) rfl
theorem mw_1_66 : (Jvm.Cond.fieldLink "MazeBoard$Picture" (21 : Nat) "MazeBoard$Actor" "frightened" "Z") ∈ BG := BG_of (mt_1 (List.mem_of_getElem? (i := 66) rfl)) rfl
theorem mw_1_67 : (Jvm.Cond.fieldLink "MazeBoard$Game" (106 : Nat) "MazeBoard$Actor" "frightened" "Z") ∈ BG := BG_of (mt_1 (List.mem_of_getElem? (i := 67) rfl)) rfl
theorem mw_1_68 : (Jvm.Cond.fieldLink "MazeBoard" (98 : Nat) "MazeBoard$Actor" "frightened" "Z") ∈ BG := BG_of (mt_1 (List.mem_of_getElem? (i := 68) rfl)) rfl
theorem mw_1_69 : (Jvm.Cond.fieldLink "MazeBoard$Actor" (27 : Nat) "MazeBoard$Actor" "leaving" "Z") ∈ BG := BG_of (mt_1 (List.mem_of_getElem? (i := 69) rfl)) rfl
theorem mw_1_70 : (Jvm.Cond.fieldLink "MazeBoard$Maze" (40 : Nat) "MazeBoard$Actor" "leaving" "Z") ∈ BG := BG_of (mt_1 (List.mem_of_getElem? (i := 70) rfl)) rfl
theorem mw_1_71 : (Jvm.Cond.fieldLink "MazeBoard" (104 : Nat) "MazeBoard$Actor" "leaving" "Z") ∈ BG := BG_of (mt_1 (List.mem_of_getElem? (i := 71) rfl)) rfl
theorem mw_1_72 : (Jvm.Cond.fieldLink "MazeBoard$Game" (155 : Nat) "MazeBoard$Actor" "leaving" "Z") ∈ BG := BG_of (mt_1 (List.mem_of_getElem? (i := 72) rfl)) rfl
theorem mw_1_73 : (Jvm.Cond.fieldLink "MazeBoard$Actor" (30 : Nat) "MazeBoard$Actor" "resting" "I") ∈ BG := BG_of (mt_1 (List.mem_of_getElem? (i := 73) rfl)) rfl
theorem mw_1_74 : (Jvm.Cond.fieldLink "MazeBoard" (101 : Nat) "MazeBoard$Actor" "resting" "I") ∈ BG := BG_of (mt_1 (List.mem_of_getElem? (i := 74) rfl)) rfl
theorem mw_1_75 : (Jvm.Cond.fieldLink "MazeBoard$Game" (166 : Nat) "MazeBoard$Actor" "resting" "I") ∈ BG := BG_of (mt_1 (List.mem_of_getElem? (i := 75) rfl)) rfl
theorem mw_1_76 : (Jvm.Cond.fieldLink "MazeBoard$Actor" (33 : Nat) "MazeBoard$Actor" "columnBefore" "I") ∈ BG := BG_of (mt_1 (List.mem_of_getElem? (i := 76) rfl)) rfl
theorem mw_1_77 : (Jvm.Cond.fieldLink "MazeBoard$Actor" (36 : Nat) "MazeBoard$Actor" "rowBefore" "I") ∈ BG := BG_of (mt_1 (List.mem_of_getElem? (i := 77) rfl)) rfl
theorem mw_1_78 : (Jvm.Cond.fieldLink "MazeBoard$Actor" (52 : Nat) "MazeBoard$Actor" "aimColumn" "I") ∈ BG := BG_of (mt_1 (List.mem_of_getElem? (i := 78) rfl)) rfl
theorem mw_1_79 : (Jvm.Cond.fieldLink "MazeBoard$Game" (204 : Nat) "MazeBoard$Actor" "aimColumn" "I") ∈ BG := BG_of (mt_1 (List.mem_of_getElem? (i := 79) rfl)) rfl
theorem mw_1_80 : (Jvm.Cond.fieldLink "MazeBoard$Actor" (55 : Nat) "MazeBoard$Actor" "aimRow" "I") ∈ BG := BG_of (mt_1 (List.mem_of_getElem? (i := 80) rfl)) rfl
theorem mw_1_81 : (Jvm.Cond.fieldLink "MazeBoard$Game" (207 : Nat) "MazeBoard$Actor" "aimRow" "I") ∈ BG := BG_of (mt_1 (List.mem_of_getElem? (i := 81) rfl)) rfl
theorem mw_1_82 : (Jvm.Cond.lays "MazeBoard$Actor" "MazeBoard$Actor" "column" "I") ∈ BG := BG_of (mt_1 (List.mem_of_getElem? (i := 82) rfl)) rfl
theorem mw_1_84 : (Jvm.Cond.lays "MazeBoard$Actor" "MazeBoard$Actor" "row" "I") ∈ BG := BG_of (mt_1 (List.mem_of_getElem? (i := 84) rfl)) rfl
theorem mw_1_86 : (Jvm.Cond.lays "MazeBoard$Actor" "MazeBoard$Actor" "direction" "I") ∈ BG := BG_of (mt_1 (List.mem_of_getElem? (i := 86) rfl)) rfl
theorem mw_1_88 : (Jvm.Cond.lays "MazeBoard$Actor" "MazeBoard$Actor" "progress" "F") ∈ BG := BG_of (mt_1 (List.mem_of_getElem? (i := 88) rfl)) rfl
theorem mw_1_90 : (Jvm.Cond.lays "MazeBoard$Actor" "MazeBoard$Actor" "frightened" "Z") ∈ BG := BG_of (mt_1 (List.mem_of_getElem? (i := 90) rfl)) rfl
theorem mw_1_92 : (Jvm.Cond.lays "MazeBoard$Actor" "MazeBoard$Actor" "leaving" "Z") ∈ BG := BG_of (mt_1 (List.mem_of_getElem? (i := 92) rfl)) rfl
theorem mw_1_94 : (Jvm.Cond.lays "MazeBoard$Actor" "MazeBoard$Actor" "resting" "I") ∈ BG := BG_of (mt_1 (List.mem_of_getElem? (i := 94) rfl)) rfl
theorem mw_1_96 : (Jvm.Cond.lays "MazeBoard$Actor" "MazeBoard$Actor" "columnBefore" "I") ∈ BG := BG_of (mt_1 (List.mem_of_getElem? (i := 96) rfl)) rfl
theorem mw_1_98 : (Jvm.Cond.lays "MazeBoard$Actor" "MazeBoard$Actor" "rowBefore" "I") ∈ BG := BG_of (mt_1 (List.mem_of_getElem? (i := 98) rfl)) rfl
theorem mw_1_100 : (Jvm.Cond.lays "MazeBoard$Actor" "MazeBoard$Actor" "aimColumn" "I") ∈ BG := BG_of (mt_1 (List.mem_of_getElem? (i := 100) rfl)) rfl
theorem mw_1_102 : (Jvm.Cond.lays "MazeBoard$Actor" "MazeBoard$Actor" "aimRow" "I") ∈ BG := BG_of (mt_1 (List.mem_of_getElem? (i := 102) rfl)) rfl
theorem mw_1_105 : (Jvm.Cond.methodLink "MazeBoard$Game" (29 : Nat) ({ cls := "MazeBoard$Game", name := "clear", desc := "()V" } : Jvm.MethodName)) ∈ BG := BG_of (mt_1 (List.mem_of_getElem? (i := 105) rfl)) rfl
theorem mw_1_106 : (Jvm.Cond.instanceMethod ({ cls := "MazeBoard$Game", name := "clear", desc := "()V" } : Jvm.MethodName)) ∈ BG := BG_of (mt_1 (List.mem_of_getElem? (i := 106) rfl)) rfl
theorem mw_1_107 : (Jvm.Cond.selects "MazeBoard$Game" ({ cls := "MazeBoard$Game", name := "clear", desc := "()V" } : Jvm.MethodName) ({ cls := "MazeBoard$Game", name := "clear", desc := "()V" } : Jvm.MethodName)) ∈ BG := BG_of (mt_1 (List.mem_of_getElem? (i := 107) rfl)) rfl
theorem mw_1_108 : (Jvm.Cond.code ({ cls := "MazeBoard$Game", name := "clear", desc := "()V" } : Jvm.MethodName) prog_3_method_2_code (1 : Nat) (Option.none : Option Jvm.ClassFile.FieldType)) ∈ BG := BG_of (mt_1 (List.mem_of_getElem? (i := 108) rfl)) rfl
theorem mw_1_109 : (Jvm.Cond.methodLink "MazeBoard$Game" (43 : Nat) ({ cls := "MazeBoard$Game", name := "setUp", desc := "()V" } : Jvm.MethodName)) ∈ BG := BG_of (mt_1 (List.mem_of_getElem? (i := 109) rfl)) rfl
theorem mw_1_111 : (Jvm.Cond.instanceMethod ({ cls := "MazeBoard$Game", name := "setUp", desc := "()V" } : Jvm.MethodName)) ∈ BG := BG_of (mt_1 (List.mem_of_getElem? (i := 111) rfl)) rfl
theorem mw_1_112 : (Jvm.Cond.code ({ cls := "MazeBoard$Game", name := "setUp", desc := "()V" } : Jvm.MethodName) prog_3_method_4_code (1 : Nat) (Option.none : Option Jvm.ClassFile.FieldType)) ∈ BG := BG_of (mt_1 (List.mem_of_getElem? (i := 112) rfl)) rfl
theorem mw_1_113 : (Jvm.Cond.methodLink "MazeBoard$Game" (58 : Nat) ({ cls := "MazeBoard$Maze", name := "refill", desc := "()V" } : Jvm.MethodName)) ∈ BG := BG_of (mt_1 (List.mem_of_getElem? (i := 113) rfl)) rfl
theorem mw_1_114 : (Jvm.Cond.instanceMethod ({ cls := "MazeBoard$Maze", name := "refill", desc := "()V" } : Jvm.MethodName)) ∈ BG := BG_of (mt_1 (List.mem_of_getElem? (i := 114) rfl)) rfl
theorem mw_1_115 : (Jvm.Cond.selects "MazeBoard$Maze" ({ cls := "MazeBoard$Maze", name := "refill", desc := "()V" } : Jvm.MethodName) ({ cls := "MazeBoard$Maze", name := "refill", desc := "()V" } : Jvm.MethodName)) ∈ BG := BG_of (mt_1 (List.mem_of_getElem? (i := 115) rfl)) rfl
theorem mw_1_116 : (Jvm.Cond.code ({ cls := "MazeBoard$Maze", name := "refill", desc := "()V" } : Jvm.MethodName) prog_4_method_2_code (2 : Nat) (Option.none : Option Jvm.ClassFile.FieldType)) ∈ BG := BG_of (mt_1 (List.mem_of_getElem? (i := 116) rfl)) rfl
theorem mw_1_117 : (Jvm.Cond.fieldLink "MazeBoard$Maze" (19 : Nat) "MazeBoard$Maze" "PLAN" "[B") ∈ BG := BG_of (mt_1 (List.mem_of_getElem? (i := 117) rfl)) rfl
theorem mw_1_119 : (Jvm.Cond.methodLink "MazeBoard$Game" (61 : Nat) ({ cls := "MazeBoard$Game", name := "placeActors", desc := "()V" } : Jvm.MethodName)) ∈ BG := BG_of (mt_1 (List.mem_of_getElem? (i := 119) rfl)) rfl
theorem mw_1_121 : (Jvm.Cond.instanceMethod ({ cls := "MazeBoard$Game", name := "placeActors", desc := "()V" } : Jvm.MethodName)) ∈ BG := BG_of (mt_1 (List.mem_of_getElem? (i := 121) rfl)) rfl
theorem mw_1_122 : (Jvm.Cond.code ({ cls := "MazeBoard$Game", name := "placeActors", desc := "()V" } : Jvm.MethodName) prog_3_method_5_code (1 : Nat) (Option.none : Option Jvm.ClassFile.FieldType)) ∈ BG := BG_of (mt_1 (List.mem_of_getElem? (i := 122) rfl)) rfl
theorem mw_1_123 : (Jvm.Cond.methodLink "MazeBoard$Game" (64 : Nat) ({ cls := "MazeBoard$Actor", name := "place", desc := "(IIII)V" } : Jvm.MethodName)) ∈ BG := BG_of (mt_1 (List.mem_of_getElem? (i := 123) rfl)) rfl
theorem mw_1_124 : (Jvm.Cond.instanceMethod ({ cls := "MazeBoard$Actor", name := "place", desc := "(IIII)V" } : Jvm.MethodName)) ∈ BG := BG_of (mt_1 (List.mem_of_getElem? (i := 124) rfl)) rfl
theorem mw_1_125 : (Jvm.Cond.selects "MazeBoard$Actor" ({ cls := "MazeBoard$Actor", name := "place", desc := "(IIII)V" } : Jvm.MethodName) ({ cls := "MazeBoard$Actor", name := "place", desc := "(IIII)V" } : Jvm.MethodName)) ∈ BG := BG_of (mt_1 (List.mem_of_getElem? (i := 125) rfl)) rfl
theorem mw_1_126 : (Jvm.Cond.code ({ cls := "MazeBoard$Actor", name := "place", desc := "(IIII)V" } : Jvm.MethodName) prog_2_method_2_code (5 : Nat) (Option.none : Option Jvm.ClassFile.FieldType)) ∈ BG := BG_of (mt_1 (List.mem_of_getElem? (i := 126) rfl)) rfl
theorem mw_1_127 : (Jvm.Cond.fieldLink "MazeBoard$Game" (12 : Nat) "MazeBoard$Game" "maze" "LMazeBoard$Maze;") ∈ BG := BG_of (mt_1 (List.mem_of_getElem? (i := 127) rfl)) rfl
theorem mw_1_128 : (Jvm.Cond.fieldLink "MazeBoard" (65 : Nat) "MazeBoard$Game" "maze" "LMazeBoard$Maze;") ∈ BG := BG_of (mt_1 (List.mem_of_getElem? (i := 128) rfl)) rfl
theorem mw_1_129 : (Jvm.Cond.fieldLink "MazeBoard$Game" (20 : Nat) "MazeBoard$Game" "actors" "[LMazeBoard$Actor;") ∈ BG := BG_of (mt_1 (List.mem_of_getElem? (i := 129) rfl)) rfl
theorem mw_1_130 : (Jvm.Cond.fieldLink "MazeBoard" (83 : Nat) "MazeBoard$Game" "actors" "[LMazeBoard$Actor;") ∈ BG := BG_of (mt_1 (List.mem_of_getElem? (i := 130) rfl)) rfl
theorem mw_1_131 : (Jvm.Cond.fieldLink "MazeBoard$Game" (25 : Nat) "MazeBoard$Game" "player" "LMazeBoard$Actor;") ∈ BG := BG_of (mt_1 (List.mem_of_getElem? (i := 131) rfl)) rfl
theorem mw_1_132 : (Jvm.Cond.fieldLink "MazeBoard$Game" (32 : Nat) "MazeBoard$Game" "on" "Z") ∈ BG := BG_of (mt_1 (List.mem_of_getElem? (i := 132) rfl)) rfl
theorem mw_1_133 : (Jvm.Cond.fieldLink "MazeBoard" (30 : Nat) "MazeBoard$Game" "on" "Z") ∈ BG := BG_of (mt_1 (List.mem_of_getElem? (i := 133) rfl)) rfl
theorem mw_1_134 : (Jvm.Cond.fieldLink "MazeBoard$Speaker" (34 : Nat) "MazeBoard$Game" "on" "Z") ∈ BG := BG_of (mt_1 (List.mem_of_getElem? (i := 134) rfl)) rfl
theorem mw_1_135 : (Jvm.Cond.fieldLink "MazeBoard$Game" (46 : Nat) "MazeBoard$Game" "score" "I") ∈ BG := BG_of (mt_1 (List.mem_of_getElem? (i := 135) rfl)) rfl
theorem mw_1_136 : (Jvm.Cond.fieldLink "MazeBoard" (53 : Nat) "MazeBoard$Game" "score" "I") ∈ BG := BG_of (mt_1 (List.mem_of_getElem? (i := 136) rfl)) rfl
theorem mw_1_137 : (Jvm.Cond.fieldLink "MazeBoard" (56 : Nat) "MazeBoard$Game" "best" "I") ∈ BG := BG_of (mt_1 (List.mem_of_getElem? (i := 137) rfl)) rfl
theorem mw_1_138 : (Jvm.Cond.fieldLink "MazeBoard$Game" (149 : Nat) "MazeBoard$Game" "best" "I") ∈ BG := BG_of (mt_1 (List.mem_of_getElem? (i := 138) rfl)) rfl
theorem mw_1_139 : (Jvm.Cond.fieldLink "MazeBoard$Game" (36 : Nat) "MazeBoard$Game" "lives" "I") ∈ BG := BG_of (mt_1 (List.mem_of_getElem? (i := 139) rfl)) rfl
theorem mw_1_140 : (Jvm.Cond.fieldLink "MazeBoard" (59 : Nat) "MazeBoard$Game" "lives" "I") ∈ BG := BG_of (mt_1 (List.mem_of_getElem? (i := 140) rfl)) rfl
theorem mw_1_141 : (Jvm.Cond.fieldLink "MazeBoard$Game" (40 : Nat) "MazeBoard$Game" "level" "I") ∈ BG := BG_of (mt_1 (List.mem_of_getElem? (i := 141) rfl)) rfl
theorem mw_1_142 : (Jvm.Cond.fieldLink "MazeBoard" (62 : Nat) "MazeBoard$Game" "level" "I") ∈ BG := BG_of (mt_1 (List.mem_of_getElem? (i := 142) rfl)) rfl
theorem mw_1_143 : (Jvm.Cond.fieldLink "MazeBoard$Game" (49 : Nat) "MazeBoard$Game" "chain" "I") ∈ BG := BG_of (mt_1 (List.mem_of_getElem? (i := 143) rfl)) rfl
theorem mw_1_144 : (Jvm.Cond.fieldLink "MazeBoard" (80 : Nat) "MazeBoard$Game" "chain" "I") ∈ BG := BG_of (mt_1 (List.mem_of_getElem? (i := 144) rfl)) rfl
theorem mw_1_145 : (Jvm.Cond.fieldLink "MazeBoard$Game" (52 : Nat) "MazeBoard$Game" "rewarded" "Z") ∈ BG := BG_of (mt_1 (List.mem_of_getElem? (i := 145) rfl)) rfl
theorem mw_1_146 : (Jvm.Cond.fieldLink "MazeBoard$Game" (68 : Nat) "MazeBoard$Game" "fright" "I") ∈ BG := BG_of (mt_1 (List.mem_of_getElem? (i := 146) rfl)) rfl
theorem mw_1_147 : (Jvm.Cond.fieldLink "MazeBoard" (74 : Nat) "MazeBoard$Game" "fright" "I") ∈ BG := BG_of (mt_1 (List.mem_of_getElem? (i := 147) rfl)) rfl
theorem mw_1_148 : (Jvm.Cond.fieldLink "MazeBoard$Game" (71 : Nat) "MazeBoard$Game" "modeTime" "I") ∈ BG := BG_of (mt_1 (List.mem_of_getElem? (i := 148) rfl)) rfl
theorem mw_1_149 : (Jvm.Cond.fieldLink "MazeBoard" (77 : Nat) "MazeBoard$Game" "modeTime" "I") ∈ BG := BG_of (mt_1 (List.mem_of_getElem? (i := 149) rfl)) rfl
theorem mw_1_150 : (Jvm.Cond.fieldLink "MazeBoard$Game" (55 : Nat) "MazeBoard$Game" "generator" "I") ∈ BG := BG_of (mt_1 (List.mem_of_getElem? (i := 150) rfl)) rfl
theorem mw_1_151 : (Jvm.Cond.fieldLink "MazeBoard$Speaker" (24 : Nat) "MazeBoard$Game" "dotEaten" "Z") ∈ BG := BG_of (mt_1 (List.mem_of_getElem? (i := 151) rfl)) rfl
theorem mw_1_152 : (Jvm.Cond.fieldLink "MazeBoard$Game" (74 : Nat) "MazeBoard$Game" "dotEaten" "Z") ∈ BG := BG_of (mt_1 (List.mem_of_getElem? (i := 152) rfl)) rfl
theorem mw_1_153 : (Jvm.Cond.fieldLink "MazeBoard$Speaker" (42 : Nat) "MazeBoard$Game" "prizeEaten" "Z") ∈ BG := BG_of (mt_1 (List.mem_of_getElem? (i := 153) rfl)) rfl
theorem mw_1_154 : (Jvm.Cond.fieldLink "MazeBoard$Game" (77 : Nat) "MazeBoard$Game" "prizeEaten" "Z") ∈ BG := BG_of (mt_1 (List.mem_of_getElem? (i := 154) rfl)) rfl
theorem mw_1_155 : (Jvm.Cond.fieldLink "MazeBoard$Speaker" (46 : Nat) "MazeBoard$Game" "playerDied" "Z") ∈ BG := BG_of (mt_1 (List.mem_of_getElem? (i := 155) rfl)) rfl
theorem mw_1_156 : (Jvm.Cond.fieldLink "MazeBoard$Game" (80 : Nat) "MazeBoard$Game" "playerDied" "Z") ∈ BG := BG_of (mt_1 (List.mem_of_getElem? (i := 156) rfl)) rfl
theorem mw_1_157 : (Jvm.Cond.laysFinal "MazeBoard$Game" "MazeBoard$Game" "maze" "LMazeBoard$Maze;") ∈ BG := BG_of (mt_1 (List.mem_of_getElem? (i := 157) rfl)) rfl
theorem mw_1_159 : (Jvm.Cond.laysFinal "MazeBoard$Game" "MazeBoard$Game" "actors" "[LMazeBoard$Actor;") ∈ BG := BG_of (mt_1 (List.mem_of_getElem? (i := 159) rfl)) rfl
theorem mw_1_161 : (Jvm.Cond.laysFinal "MazeBoard$Game" "MazeBoard$Game" "player" "LMazeBoard$Actor;") ∈ BG := BG_of (mt_1 (List.mem_of_getElem? (i := 161) rfl)) rfl
theorem mw_1_163 : (Jvm.Cond.lays "MazeBoard$Game" "MazeBoard$Game" "on" "Z") ∈ BG := BG_of (mt_1 (List.mem_of_getElem? (i := 163) rfl)) rfl
theorem mw_1_165 : (Jvm.Cond.lays "MazeBoard$Game" "MazeBoard$Game" "score" "I") ∈ BG := BG_of (mt_1 (List.mem_of_getElem? (i := 165) rfl)) rfl
theorem mw_1_167 : (Jvm.Cond.lays "MazeBoard$Game" "MazeBoard$Game" "best" "I") ∈ BG := BG_of (mt_1 (List.mem_of_getElem? (i := 167) rfl)) rfl
theorem mw_1_169 : (Jvm.Cond.lays "MazeBoard$Game" "MazeBoard$Game" "lives" "I") ∈ BG := BG_of (mt_1 (List.mem_of_getElem? (i := 169) rfl)) rfl
theorem mw_1_171 : (Jvm.Cond.lays "MazeBoard$Game" "MazeBoard$Game" "level" "I") ∈ BG := BG_of (mt_1 (List.mem_of_getElem? (i := 171) rfl)) rfl
theorem mw_1_173 : (Jvm.Cond.lays "MazeBoard$Game" "MazeBoard$Game" "chain" "I") ∈ BG := BG_of (mt_1 (List.mem_of_getElem? (i := 173) rfl)) rfl
theorem mw_1_175 : (Jvm.Cond.lays "MazeBoard$Game" "MazeBoard$Game" "rewarded" "Z") ∈ BG := BG_of (mt_1 (List.mem_of_getElem? (i := 175) rfl)) rfl
theorem mw_1_177 : (Jvm.Cond.lays "MazeBoard$Game" "MazeBoard$Game" "fright" "I") ∈ BG := BG_of (mt_1 (List.mem_of_getElem? (i := 177) rfl)) rfl
theorem mw_1_179 : (Jvm.Cond.lays "MazeBoard$Game" "MazeBoard$Game" "modeTime" "I") ∈ BG := BG_of (mt_1 (List.mem_of_getElem? (i := 179) rfl)) rfl
theorem mw_1_181 : (Jvm.Cond.lays "MazeBoard$Game" "MazeBoard$Game" "generator" "I") ∈ BG := BG_of (mt_1 (List.mem_of_getElem? (i := 181) rfl)) rfl
theorem mw_1_183 : (Jvm.Cond.lays "MazeBoard$Game" "MazeBoard$Game" "dotEaten" "Z") ∈ BG := BG_of (mt_1 (List.mem_of_getElem? (i := 183) rfl)) rfl
theorem mw_1_185 : (Jvm.Cond.lays "MazeBoard$Game" "MazeBoard$Game" "prizeEaten" "Z") ∈ BG := BG_of (mt_1 (List.mem_of_getElem? (i := 185) rfl)) rfl
theorem mw_1_187 : (Jvm.Cond.lays "MazeBoard$Game" "MazeBoard$Game" "playerDied" "Z") ∈ BG := BG_of (mt_1 (List.mem_of_getElem? (i := 187) rfl)) rfl
theorem mw_1_190 : (Jvm.Cond.classLink "MazeBoard" (16 : Nat) "MazeBoard$Speaker") ∈ BG := BG_of (mt_1 (List.mem_of_getElem? (i := 190) rfl)) rfl
theorem mw_1_191 : (Jvm.Cond.instantiable "MazeBoard$Speaker" (1 : Nat)) ∈ BG := BG_of (mt_1 (List.mem_of_getElem? (i := 191) rfl)) rfl
theorem mw_1_192 : (Jvm.Cond.methodLink "MazeBoard" (18 : Nat) ({ cls := "MazeBoard$Speaker", name := "<init>", desc := "()V" } : Jvm.MethodName)) ∈ BG := BG_of (mt_1 (List.mem_of_getElem? (i := 192) rfl)) rfl
theorem mw_1_193 : (Jvm.Cond.instanceMethod ({ cls := "MazeBoard$Speaker", name := "<init>", desc := "()V" } : Jvm.MethodName)) ∈ BG := BG_of (mt_1 (List.mem_of_getElem? (i := 193) rfl)) rfl
theorem mw_1_194 : (Jvm.Cond.code ({ cls := "MazeBoard$Speaker", name := "<init>", desc := "()V" } : Jvm.MethodName) prog_6_method_1_code (2 : Nat) (Option.none : Option Jvm.ClassFile.FieldType)) ∈ BG := BG_of (mt_1 (List.mem_of_getElem? (i := 194) rfl)) rfl
theorem mw_1_195 : (Jvm.Cond.methodLink "MazeBoard$Speaker" (3 : Nat) ({ cls := "java/lang/Object", name := "<init>", desc := "()V" } : Jvm.MethodName)) ∈ BG := BG_of (mt_1 (List.mem_of_getElem? (i := 195) rfl)) rfl
theorem mw_1_196 : (Jvm.Cond.classLink "MazeBoard$Speaker" (9 : Nat) "MazeBoard$Voice") ∈ BG := BG_of (mt_1 (List.mem_of_getElem? (i := 196) rfl)) rfl
theorem mw_1_198 : (Jvm.Cond.instantiable "MazeBoard$Voice" (3 : Nat)) ∈ BG := BG_of (mt_1 (List.mem_of_getElem? (i := 198) rfl)) rfl
theorem mw_1_200 : (Jvm.Cond.instanceMethod ({ cls := "MazeBoard$Voice", name := "<init>", desc := "()V" } : Jvm.MethodName)) ∈ BG := BG_of (mt_1 (List.mem_of_getElem? (i := 200) rfl)) rfl
theorem mw_1_201 : (Jvm.Cond.code ({ cls := "MazeBoard$Voice", name := "<init>", desc := "()V" } : Jvm.MethodName) prog_7_method_1_code (1 : Nat) (Option.none : Option Jvm.ClassFile.FieldType)) ∈ BG := BG_of (mt_1 (List.mem_of_getElem? (i := 201) rfl)) rfl
theorem mw_1_202 : (Jvm.Cond.methodLink "MazeBoard$Voice" (1 : Nat) ({ cls := "java/lang/Object", name := "<init>", desc := "()V" } : Jvm.MethodName)) ∈ BG := BG_of (mt_1 (List.mem_of_getElem? (i := 202) rfl)) rfl
theorem mw_1_203 : (Jvm.Cond.fieldLink "MazeBoard$Voice" (7 : Nat) "MazeBoard$Voice" "accumulator" "S") ∈ BG := BG_of (mt_1 (List.mem_of_getElem? (i := 203) rfl)) rfl
theorem mw_1_204 : (Jvm.Cond.fieldLink "MazeBoard$Voice" (13 : Nat) "MazeBoard$Voice" "pitch" "I") ∈ BG := BG_of (mt_1 (List.mem_of_getElem? (i := 204) rfl)) rfl
theorem mw_1_205 : (Jvm.Cond.fieldLink "MazeBoard$Voice" (17 : Nat) "MazeBoard$Voice" "loudness" "F") ∈ BG := BG_of (mt_1 (List.mem_of_getElem? (i := 205) rfl)) rfl
theorem mw_1_206 : (Jvm.Cond.fieldLink "MazeBoard" (133 : Nat) "MazeBoard$Voice" "loudness" "F") ∈ BG := BG_of (mt_1 (List.mem_of_getElem? (i := 206) rfl)) rfl
theorem mw_1_207 : (Jvm.Cond.lays "MazeBoard$Voice" "MazeBoard$Voice" "accumulator" "S") ∈ BG := BG_of (mt_1 (List.mem_of_getElem? (i := 207) rfl)) rfl
theorem mw_1_209 : (Jvm.Cond.lays "MazeBoard$Voice" "MazeBoard$Voice" "pitch" "I") ∈ BG := BG_of (mt_1 (List.mem_of_getElem? (i := 209) rfl)) rfl
theorem mw_1_211 : (Jvm.Cond.lays "MazeBoard$Voice" "MazeBoard$Voice" "loudness" "F") ∈ BG := BG_of (mt_1 (List.mem_of_getElem? (i := 211) rfl)) rfl
theorem mw_1_214 : (Jvm.Cond.fieldLink "MazeBoard$Speaker" (11 : Nat) "MazeBoard$Speaker" "voices" "[LMazeBoard$Voice;") ∈ BG := BG_of (mt_1 (List.mem_of_getElem? (i := 214) rfl)) rfl
theorem mw_1_215 : (Jvm.Cond.fieldLink "MazeBoard" (129 : Nat) "MazeBoard$Speaker" "voices" "[LMazeBoard$Voice;") ∈ BG := BG_of (mt_1 (List.mem_of_getElem? (i := 215) rfl)) rfl
theorem mw_1_216 : (Jvm.Cond.laysFinal "MazeBoard$Speaker" "MazeBoard$Speaker" "voices" "[LMazeBoard$Voice;") ∈ BG := BG_of (mt_1 (List.mem_of_getElem? (i := 216) rfl)) rfl
theorem mw_1_219 : (Jvm.Cond.fieldLink "MazeBoard" (10 : Nat) "MazeBoard" "game" "LMazeBoard$Game;") ∈ BG := BG_of (mt_1 (List.mem_of_getElem? (i := 219) rfl)) rfl
theorem mw_1_220 : (Jvm.Cond.fieldLink "MazeBoard" (19 : Nat) "MazeBoard" "speaker" "LMazeBoard$Speaker;") ∈ BG := BG_of (mt_1 (List.mem_of_getElem? (i := 220) rfl)) rfl
theorem mw_1_221 : (Jvm.Cond.fieldLink "MazeBoard" (27 : Nat) "MazeBoard" "coins" "I") ∈ BG := BG_of (mt_1 (List.mem_of_getElem? (i := 221) rfl)) rfl
theorem mw_1_222 : (Jvm.Cond.fieldLink "MazeBoard" (23 : Nat) "MazeBoard" "stickDirection" "I") ∈ BG := BG_of (mt_1 (List.mem_of_getElem? (i := 222) rfl)) rfl
theorem mw_1_223 : (Jvm.Cond.fieldLink "MazeBoard" (37 : Nat) "MazeBoard" "watchdog" "I") ∈ BG := BG_of (mt_1 (List.mem_of_getElem? (i := 223) rfl)) rfl
theorem mw_1_224 : (Jvm.Cond.fieldLink "MazeBoard" (47 : Nat) "MazeBoard" "frameCount" "I") ∈ BG := BG_of (mt_1 (List.mem_of_getElem? (i := 224) rfl)) rfl
theorem mw_1_225 : (Jvm.Cond.laysFinal "MazeBoard" "MazeBoard" "game" "LMazeBoard$Game;") ∈ BG := BG_of (mt_1 (List.mem_of_getElem? (i := 225) rfl)) rfl
theorem mw_1_227 : (Jvm.Cond.laysFinal "MazeBoard" "MazeBoard" "speaker" "LMazeBoard$Speaker;") ∈ BG := BG_of (mt_1 (List.mem_of_getElem? (i := 227) rfl)) rfl
theorem mw_1_229 : (Jvm.Cond.lays "MazeBoard" "MazeBoard" "coins" "I") ∈ BG := BG_of (mt_1 (List.mem_of_getElem? (i := 229) rfl)) rfl
theorem mw_1_231 : (Jvm.Cond.lays "MazeBoard" "MazeBoard" "stickDirection" "I") ∈ BG := BG_of (mt_1 (List.mem_of_getElem? (i := 231) rfl)) rfl
theorem mw_1_233 : (Jvm.Cond.lays "MazeBoard" "MazeBoard" "watchdog" "I") ∈ BG := BG_of (mt_1 (List.mem_of_getElem? (i := 233) rfl)) rfl
theorem mw_1_235 : (Jvm.Cond.lays "MazeBoard" "MazeBoard" "frameCount" "I") ∈ BG := BG_of (mt_1 (List.mem_of_getElem? (i := 235) rfl)) rfl
theorem mw_1_238 : (Jvm.Cond.methodLink "MazeBoardLaw" (13 : Nat) ({ cls := "MazeBoard", name := "coin", desc := "()Z" } : Jvm.MethodName)) ∈ BG := BG_of (mt_1 (List.mem_of_getElem? (i := 238) rfl)) rfl
theorem mw_1_239 : (Jvm.Cond.instanceMethod ({ cls := "MazeBoard", name := "coin", desc := "()Z" } : Jvm.MethodName)) ∈ BG := BG_of (mt_1 (List.mem_of_getElem? (i := 239) rfl)) rfl
theorem mw_2_0 : (Jvm.Cond.selects "MazeBoard" ({ cls := "MazeBoard", name := "coin", desc := "()Z" } : Jvm.MethodName) ({ cls := "MazeBoard", name := "coin", desc := "()Z" } : Jvm.MethodName)) ∈ BG := BG_of (mt_2 (List.mem_of_getElem? (i := 0) rfl)) rfl
theorem mw_2_1 : (Jvm.Cond.code ({ cls := "MazeBoard", name := "coin", desc := "()Z" } : Jvm.MethodName) prog_1_method_2_code (1 : Nat) (Option.some Jvm.ClassFile.FieldType.boolean)) ∈ BG := BG_of (mt_2 (List.mem_of_getElem? (i := 1) rfl)) rfl
theorem mw_2_2 : (Jvm.Cond.methodLink "MazeBoardLaw" (18 : Nat) ({ cls := "MazeBoard", name := "start", desc := "()Z" } : Jvm.MethodName)) ∈ BG := BG_of (mt_2 (List.mem_of_getElem? (i := 2) rfl)) rfl
theorem mw_2_3 : (Jvm.Cond.instanceMethod ({ cls := "MazeBoard", name := "start", desc := "()Z" } : Jvm.MethodName)) ∈ BG := BG_of (mt_2 (List.mem_of_getElem? (i := 3) rfl)) rfl
theorem mw_2_4 : (Jvm.Cond.selects "MazeBoard" ({ cls := "MazeBoard", name := "start", desc := "()Z" } : Jvm.MethodName) ({ cls := "MazeBoard", name := "start", desc := "()Z" } : Jvm.MethodName)) ∈ BG := BG_of (mt_2 (List.mem_of_getElem? (i := 4) rfl)) rfl
theorem mw_2_5 : (Jvm.Cond.code ({ cls := "MazeBoard", name := "start", desc := "()Z" } : Jvm.MethodName) prog_1_method_3_code (1 : Nat) (Option.some Jvm.ClassFile.FieldType.boolean)) ∈ BG := BG_of (mt_2 (List.mem_of_getElem? (i := 5) rfl)) rfl
theorem mw_2_6 : (Jvm.Cond.methodLink "MazeBoard" (34 : Nat) ({ cls := "MazeBoard$Game", name := "begin", desc := "()V" } : Jvm.MethodName)) ∈ BG := BG_of (mt_2 (List.mem_of_getElem? (i := 6) rfl)) rfl
theorem mw_2_7 : (Jvm.Cond.instanceMethod ({ cls := "MazeBoard$Game", name := "begin", desc := "()V" } : Jvm.MethodName)) ∈ BG := BG_of (mt_2 (List.mem_of_getElem? (i := 7) rfl)) rfl
theorem mw_2_8 : (Jvm.Cond.selects "MazeBoard$Game" ({ cls := "MazeBoard$Game", name := "begin", desc := "()V" } : Jvm.MethodName) ({ cls := "MazeBoard$Game", name := "begin", desc := "()V" } : Jvm.MethodName)) ∈ BG := BG_of (mt_2 (List.mem_of_getElem? (i := 8) rfl)) rfl
theorem mw_2_9 : (Jvm.Cond.code ({ cls := "MazeBoard$Game", name := "begin", desc := "()V" } : Jvm.MethodName) prog_3_method_3_code (1 : Nat) (Option.none : Option Jvm.ClassFile.FieldType)) ∈ BG := BG_of (mt_2 (List.mem_of_getElem? (i := 9) rfl)) rfl
theorem mw_2_10 : (Jvm.Cond.methodLink "MazeBoardLaw" (22 : Nat) ({ cls := "MazeBoard", name := "stick", desc := "(I)Z" } : Jvm.MethodName)) ∈ BG := BG_of (mt_2 (List.mem_of_getElem? (i := 10) rfl)) rfl
theorem mw_2_11 : (Jvm.Cond.instanceMethod ({ cls := "MazeBoard", name := "stick", desc := "(I)Z" } : Jvm.MethodName)) ∈ BG := BG_of (mt_2 (List.mem_of_getElem? (i := 11) rfl)) rfl
theorem mw_2_12 : (Jvm.Cond.selects "MazeBoard" ({ cls := "MazeBoard", name := "stick", desc := "(I)Z" } : Jvm.MethodName) ({ cls := "MazeBoard", name := "stick", desc := "(I)Z" } : Jvm.MethodName)) ∈ BG := BG_of (mt_2 (List.mem_of_getElem? (i := 12) rfl)) rfl
theorem mw_2_13 : (Jvm.Cond.code ({ cls := "MazeBoard", name := "stick", desc := "(I)Z" } : Jvm.MethodName) prog_1_method_4_code (2 : Nat) (Option.some Jvm.ClassFile.FieldType.boolean)) ∈ BG := BG_of (mt_2 (List.mem_of_getElem? (i := 13) rfl)) rfl
theorem mw_2_14 : (Jvm.Cond.methodLink "MazeBoardLaw" (27 : Nat) ({ cls := "MazeBoard", name := "kick", desc := "()V" } : Jvm.MethodName)) ∈ BG := BG_of (mt_2 (List.mem_of_getElem? (i := 14) rfl)) rfl
theorem mw_2_15 : (Jvm.Cond.instanceMethod ({ cls := "MazeBoard", name := "kick", desc := "()V" } : Jvm.MethodName)) ∈ BG := BG_of (mt_2 (List.mem_of_getElem? (i := 15) rfl)) rfl
theorem mw_2_16 : (Jvm.Cond.selects "MazeBoard" ({ cls := "MazeBoard", name := "kick", desc := "()V" } : Jvm.MethodName) ({ cls := "MazeBoard", name := "kick", desc := "()V" } : Jvm.MethodName)) ∈ BG := BG_of (mt_2 (List.mem_of_getElem? (i := 16) rfl)) rfl
theorem mw_2_17 : (Jvm.Cond.code ({ cls := "MazeBoard", name := "kick", desc := "()V" } : Jvm.MethodName) prog_1_method_5_code (1 : Nat) (Option.none : Option Jvm.ClassFile.FieldType)) ∈ BG := BG_of (mt_2 (List.mem_of_getElem? (i := 17) rfl)) rfl
theorem mw_2_18 : (Jvm.Cond.methodLink "MazeBoardLaw" (31 : Nat) ({ cls := "MazeBoard", name := "frames", desc := "(I)I" } : Jvm.MethodName)) ∈ BG := BG_of (mt_2 (List.mem_of_getElem? (i := 18) rfl)) rfl
theorem mw_2_19 : (Jvm.Cond.instanceMethod ({ cls := "MazeBoard", name := "frames", desc := "(I)I" } : Jvm.MethodName)) ∈ BG := BG_of (mt_2 (List.mem_of_getElem? (i := 19) rfl)) rfl
theorem mw_2_20 : (Jvm.Cond.selects "MazeBoard" ({ cls := "MazeBoard", name := "frames", desc := "(I)I" } : Jvm.MethodName) ({ cls := "MazeBoard", name := "frames", desc := "(I)I" } : Jvm.MethodName)) ∈ BG := BG_of (mt_2 (List.mem_of_getElem? (i := 20) rfl)) rfl
theorem mw_2_21 : (Jvm.Cond.code ({ cls := "MazeBoard", name := "frames", desc := "(I)I" } : Jvm.MethodName) prog_1_method_6_code (3 : Nat) (Option.some Jvm.ClassFile.FieldType.int)) ∈ BG := BG_of (mt_2 (List.mem_of_getElem? (i := 21) rfl)) rfl
theorem mw_2_22 : (Jvm.Cond.methodLink "MazeBoard" (40 : Nat) ({ cls := "MazeBoard$Game", name := "playFrame", desc := "(I)V" } : Jvm.MethodName)) ∈ BG := BG_of (mt_2 (List.mem_of_getElem? (i := 22) rfl)) rfl
theorem mw_2_23 : (Jvm.Cond.instanceMethod ({ cls := "MazeBoard$Game", name := "playFrame", desc := "(I)V" } : Jvm.MethodName)) ∈ BG := BG_of (mt_2 (List.mem_of_getElem? (i := 23) rfl)) rfl
theorem mw_2_24 : (Jvm.Cond.selects "MazeBoard$Game" ({ cls := "MazeBoard$Game", name := "playFrame", desc := "(I)V" } : Jvm.MethodName) ({ cls := "MazeBoard$Game", name := "playFrame", desc := "(I)V" } : Jvm.MethodName)) ∈ BG := BG_of (mt_2 (List.mem_of_getElem? (i := 24) rfl)) rfl
theorem mw_2_25 : (Jvm.Cond.code ({ cls := "MazeBoard$Game", name := "playFrame", desc := "(I)V" } : Jvm.MethodName) prog_3_method_6_code (3 : Nat) (Option.none : Option Jvm.ClassFile.FieldType)) ∈ BG := BG_of (mt_2 (List.mem_of_getElem? (i := 25) rfl)) rfl
theorem mw_2_26 : (Jvm.Cond.methodLink "MazeBoard$Game" (83 : Nat) ({ cls := "MazeBoard$Actor", name := "rememberCell", desc := "()V" } : Jvm.MethodName)) ∈ BG := BG_of (mt_2 (List.mem_of_getElem? (i := 26) rfl)) rfl
theorem mw_2_27 : (Jvm.Cond.instanceMethod ({ cls := "MazeBoard$Actor", name := "rememberCell", desc := "()V" } : Jvm.MethodName)) ∈ BG := BG_of (mt_2 (List.mem_of_getElem? (i := 27) rfl)) rfl
theorem mw_2_28 : (Jvm.Cond.selects "MazeBoard$Actor" ({ cls := "MazeBoard$Actor", name := "rememberCell", desc := "()V" } : Jvm.MethodName) ({ cls := "MazeBoard$Actor", name := "rememberCell", desc := "()V" } : Jvm.MethodName)) ∈ BG := BG_of (mt_2 (List.mem_of_getElem? (i := 28) rfl)) rfl
theorem mw_2_29 : (Jvm.Cond.code ({ cls := "MazeBoard$Actor", name := "rememberCell", desc := "()V" } : Jvm.MethodName) prog_2_method_3_code (1 : Nat) (Option.none : Option Jvm.ClassFile.FieldType)) ∈ BG := BG_of (mt_2 (List.mem_of_getElem? (i := 29) rfl)) rfl
theorem mw_2_30 : (Jvm.Cond.methodLink "MazeBoard$Game" (86 : Nat) ({ cls := "MazeBoard$Game", name := "passTime", desc := "()V" } : Jvm.MethodName)) ∈ BG := BG_of (mt_2 (List.mem_of_getElem? (i := 30) rfl)) rfl
theorem mw_2_32 : (Jvm.Cond.instanceMethod ({ cls := "MazeBoard$Game", name := "passTime", desc := "()V" } : Jvm.MethodName)) ∈ BG := BG_of (mt_2 (List.mem_of_getElem? (i := 32) rfl)) rfl
theorem mw_2_33 : (Jvm.Cond.code ({ cls := "MazeBoard$Game", name := "passTime", desc := "()V" } : Jvm.MethodName) prog_3_method_7_code (2 : Nat) (Option.none : Option Jvm.ClassFile.FieldType)) ∈ BG := BG_of (mt_2 (List.mem_of_getElem? (i := 33) rfl)) rfl
theorem mw_2_34 : (Jvm.Cond.methodLink "MazeBoard$Game" (89 : Nat) ({ cls := "MazeBoard$Game", name := "movePlayer", desc := "(I)Z" } : Jvm.MethodName)) ∈ BG := BG_of (mt_2 (List.mem_of_getElem? (i := 34) rfl)) rfl
theorem mw_2_36 : (Jvm.Cond.instanceMethod ({ cls := "MazeBoard$Game", name := "movePlayer", desc := "(I)Z" } : Jvm.MethodName)) ∈ BG := BG_of (mt_2 (List.mem_of_getElem? (i := 36) rfl)) rfl
theorem mw_2_37 : (Jvm.Cond.code ({ cls := "MazeBoard$Game", name := "movePlayer", desc := "(I)Z" } : Jvm.MethodName) prog_3_method_9_code (2 : Nat) (Option.some Jvm.ClassFile.FieldType.boolean)) ∈ BG := BG_of (mt_2 (List.mem_of_getElem? (i := 37) rfl)) rfl
theorem mw_2_38 : (Jvm.Cond.methodLink "MazeBoard$Game" (113 : Nat) ({ cls := "MazeBoard$Game", name := "isStickOpen", desc := "(I)Z" } : Jvm.MethodName)) ∈ BG := BG_of (mt_2 (List.mem_of_getElem? (i := 38) rfl)) rfl
theorem mw_2_40 : (Jvm.Cond.instanceMethod ({ cls := "MazeBoard$Game", name := "isStickOpen", desc := "(I)Z" } : Jvm.MethodName)) ∈ BG := BG_of (mt_2 (List.mem_of_getElem? (i := 40) rfl)) rfl
theorem mw_2_41 : (Jvm.Cond.code ({ cls := "MazeBoard$Game", name := "isStickOpen", desc := "(I)Z" } : Jvm.MethodName) prog_3_method_10_code (2 : Nat) (Option.some Jvm.ClassFile.FieldType.boolean)) ∈ BG := BG_of (mt_2 (List.mem_of_getElem? (i := 41) rfl)) rfl
theorem mw_2_42 : (Jvm.Cond.methodLink "MazeBoard$Game" (119 : Nat) ({ cls := "MazeBoard$Maze", name := "isOpen", desc := "(LMazeBoard$Actor;I)Z" } : Jvm.MethodName)) ∈ BG := BG_of (mt_2 (List.mem_of_getElem? (i := 42) rfl)) rfl
theorem mw_2_43 : (Jvm.Cond.instanceMethod ({ cls := "MazeBoard$Maze", name := "isOpen", desc := "(LMazeBoard$Actor;I)Z" } : Jvm.MethodName)) ∈ BG := BG_of (mt_2 (List.mem_of_getElem? (i := 43) rfl)) rfl
theorem mw_2_44 : (Jvm.Cond.selects "MazeBoard$Maze" ({ cls := "MazeBoard$Maze", name := "isOpen", desc := "(LMazeBoard$Actor;I)Z" } : Jvm.MethodName) ({ cls := "MazeBoard$Maze", name := "isOpen", desc := "(LMazeBoard$Actor;I)Z" } : Jvm.MethodName)) ∈ BG := BG_of (mt_2 (List.mem_of_getElem? (i := 44) rfl)) rfl
theorem mw_2_45 : (Jvm.Cond.code ({ cls := "MazeBoard$Maze", name := "isOpen", desc := "(LMazeBoard$Actor;I)Z" } : Jvm.MethodName) prog_4_method_4_code (4 : Nat) (Option.some Jvm.ClassFile.FieldType.boolean)) ∈ BG := BG_of (mt_2 (List.mem_of_getElem? (i := 45) rfl)) rfl
theorem mw_2_47 : (Jvm.Cond.static ({ cls := "MazeBoard", name := "nextColumn", desc := "(II)I" } : Jvm.MethodName)) ∈ BG := BG_of (mt_2 (List.mem_of_getElem? (i := 47) rfl)) rfl
theorem mw_2_48 : (Jvm.Cond.code ({ cls := "MazeBoard", name := "nextColumn", desc := "(II)I" } : Jvm.MethodName) prog_1_method_15_code (2 : Nat) (Option.some Jvm.ClassFile.FieldType.int)) ∈ BG := BG_of (mt_2 (List.mem_of_getElem? (i := 48) rfl)) rfl
theorem mw_2_50 : (Jvm.Cond.static ({ cls := "MazeBoard", name := "nextRow", desc := "(II)I" } : Jvm.MethodName)) ∈ BG := BG_of (mt_2 (List.mem_of_getElem? (i := 50) rfl)) rfl
theorem mw_2_51 : (Jvm.Cond.code ({ cls := "MazeBoard", name := "nextRow", desc := "(II)I" } : Jvm.MethodName) prog_1_method_16_code (2 : Nat) (Option.some Jvm.ClassFile.FieldType.int)) ∈ BG := BG_of (mt_2 (List.mem_of_getElem? (i := 51) rfl)) rfl
theorem mw_2_52 : (Jvm.Cond.methodLink "MazeBoard$Maze" (37 : Nat) ({ cls := "MazeBoard$Maze", name := "whatIs", desc := "(II)I" } : Jvm.MethodName)) ∈ BG := BG_of (mt_2 (List.mem_of_getElem? (i := 52) rfl)) rfl
theorem mw_2_53 : (Jvm.Cond.instanceMethod ({ cls := "MazeBoard$Maze", name := "whatIs", desc := "(II)I" } : Jvm.MethodName)) ∈ BG := BG_of (mt_2 (List.mem_of_getElem? (i := 53) rfl)) rfl
theorem mw_2_54 : (Jvm.Cond.selects "MazeBoard$Maze" ({ cls := "MazeBoard$Maze", name := "whatIs", desc := "(II)I" } : Jvm.MethodName) ({ cls := "MazeBoard$Maze", name := "whatIs", desc := "(II)I" } : Jvm.MethodName)) ∈ BG := BG_of (mt_2 (List.mem_of_getElem? (i := 54) rfl)) rfl
theorem mw_2_55 : (Jvm.Cond.code ({ cls := "MazeBoard$Maze", name := "whatIs", desc := "(II)I" } : Jvm.MethodName) prog_4_method_3_code (3 : Nat) (Option.some Jvm.ClassFile.FieldType.int)) ∈ BG := BG_of (mt_2 (List.mem_of_getElem? (i := 55) rfl)) rfl
theorem mw_2_56 : (Jvm.Cond.constantFloat "MazeBoard$Game" (123 : Nat) (1045220557 : UInt32)) ∈ BG := BG_of (mt_2 (List.mem_of_getElem? (i := 56) rfl)) rfl
theorem mw_2_57 : (Jvm.Cond.constantFloat "MazeBoard$Game" (124 : Nat) (1028443341 : UInt32)) ∈ BG := BG_of (mt_2 (List.mem_of_getElem? (i := 57) rfl)) rfl
theorem mw_2_58 : (Jvm.Cond.methodLink "MazeBoard$Game" (125 : Nat) ({ cls := "java/lang/Math", name := "min", desc := "(II)I" } : Jvm.MethodName)) ∈ BG := BG_of (mt_2 (List.mem_of_getElem? (i := 58) rfl)) rfl
theorem mw_2_59 : (Jvm.Cond.static ({ cls := "java/lang/Math", name := "min", desc := "(II)I" } : Jvm.MethodName)) ∈ BG := BG_of (mt_2 (List.mem_of_getElem? (i := 59) rfl)) rfl
theorem mw_2_60 : (Jvm.Cond.code ({ cls := "java/lang/Math", name := "min", desc := "(II)I" } : Jvm.MethodName) prog_10_method_69_code (2 : Nat) (Option.some Jvm.ClassFile.FieldType.int)) ∈ BG := BG_of (mt_2 (List.mem_of_getElem? (i := 60) rfl)) rfl
theorem mw_2_61 : (Jvm.Cond.methodLink "MazeBoard$Game" (131 : Nat) ({ cls := "MazeBoard$Actor", name := "enterNextCell", desc := "()V" } : Jvm.MethodName)) ∈ BG := BG_of (mt_2 (List.mem_of_getElem? (i := 61) rfl)) rfl
theorem mw_2_62 : (Jvm.Cond.instanceMethod ({ cls := "MazeBoard$Actor", name := "enterNextCell", desc := "()V" } : Jvm.MethodName)) ∈ BG := BG_of (mt_2 (List.mem_of_getElem? (i := 62) rfl)) rfl
theorem mw_2_63 : (Jvm.Cond.selects "MazeBoard$Actor" ({ cls := "MazeBoard$Actor", name := "enterNextCell", desc := "()V" } : Jvm.MethodName) ({ cls := "MazeBoard$Actor", name := "enterNextCell", desc := "()V" } : Jvm.MethodName)) ∈ BG := BG_of (mt_2 (List.mem_of_getElem? (i := 63) rfl)) rfl
theorem mw_2_64 : (Jvm.Cond.code ({ cls := "MazeBoard$Actor", name := "enterNextCell", desc := "()V" } : Jvm.MethodName) prog_2_method_4_code (1 : Nat) (Option.none : Option Jvm.ClassFile.FieldType)) ∈ BG := BG_of (mt_2 (List.mem_of_getElem? (i := 64) rfl)) rfl
theorem mw_2_67 : (Jvm.Cond.methodLink "MazeBoard$Game" (93 : Nat) ({ cls := "MazeBoard$Game", name := "eatHere", desc := "()V" } : Jvm.MethodName)) ∈ BG := BG_of (mt_2 (List.mem_of_getElem? (i := 67) rfl)) rfl
theorem mw_2_69 : (Jvm.Cond.instanceMethod ({ cls := "MazeBoard$Game", name := "eatHere", desc := "()V" } : Jvm.MethodName)) ∈ BG := BG_of (mt_2 (List.mem_of_getElem? (i := 69) rfl)) rfl
theorem mw_2_70 : (Jvm.Cond.code ({ cls := "MazeBoard$Game", name := "eatHere", desc := "()V" } : Jvm.MethodName) prog_3_method_11_code (2 : Nat) (Option.none : Option Jvm.ClassFile.FieldType)) ∈ BG := BG_of (mt_2 (List.mem_of_getElem? (i := 70) rfl)) rfl
theorem mw_2_71 : (Jvm.Cond.methodLink "MazeBoard$Game" (140 : Nat) ({ cls := "MazeBoard$Maze", name := "eat", desc := "(II)I" } : Jvm.MethodName)) ∈ BG := BG_of (mt_2 (List.mem_of_getElem? (i := 71) rfl)) rfl
theorem mw_2_72 : (Jvm.Cond.instanceMethod ({ cls := "MazeBoard$Maze", name := "eat", desc := "(II)I" } : Jvm.MethodName)) ∈ BG := BG_of (mt_2 (List.mem_of_getElem? (i := 72) rfl)) rfl
theorem mw_2_73 : (Jvm.Cond.selects "MazeBoard$Maze" ({ cls := "MazeBoard$Maze", name := "eat", desc := "(II)I" } : Jvm.MethodName) ({ cls := "MazeBoard$Maze", name := "eat", desc := "(II)I" } : Jvm.MethodName)) ∈ BG := BG_of (mt_2 (List.mem_of_getElem? (i := 73) rfl)) rfl
theorem mw_2_74 : (Jvm.Cond.code ({ cls := "MazeBoard$Maze", name := "eat", desc := "(II)I" } : Jvm.MethodName) prog_4_method_5_code (4 : Nat) (Option.some Jvm.ClassFile.FieldType.int)) ∈ BG := BG_of (mt_2 (List.mem_of_getElem? (i := 74) rfl)) rfl
theorem mw_2_75 : (Jvm.Cond.methodLink "MazeBoard$Game" (143 : Nat) ({ cls := "MazeBoard$Game", name := "addPoints", desc := "(I)V" } : Jvm.MethodName)) ∈ BG := BG_of (mt_2 (List.mem_of_getElem? (i := 75) rfl)) rfl
theorem mw_2_77 : (Jvm.Cond.instanceMethod ({ cls := "MazeBoard$Game", name := "addPoints", desc := "(I)V" } : Jvm.MethodName)) ∈ BG := BG_of (mt_2 (List.mem_of_getElem? (i := 77) rfl)) rfl
theorem mw_2_78 : (Jvm.Cond.code ({ cls := "MazeBoard$Game", name := "addPoints", desc := "(I)V" } : Jvm.MethodName) prog_3_method_12_code (2 : Nat) (Option.none : Option Jvm.ClassFile.FieldType)) ∈ BG := BG_of (mt_2 (List.mem_of_getElem? (i := 78) rfl)) rfl
theorem mw_2_79 : (Jvm.Cond.methodLink "MazeBoard$Game" (152 : Nat) ({ cls := "java/lang/Math", name := "max", desc := "(II)I" } : Jvm.MethodName)) ∈ BG := BG_of (mt_2 (List.mem_of_getElem? (i := 79) rfl)) rfl
theorem mw_2_80 : (Jvm.Cond.static ({ cls := "java/lang/Math", name := "max", desc := "(II)I" } : Jvm.MethodName)) ∈ BG := BG_of (mt_2 (List.mem_of_getElem? (i := 80) rfl)) rfl
theorem mw_2_81 : (Jvm.Cond.code ({ cls := "java/lang/Math", name := "max", desc := "(II)I" } : Jvm.MethodName) prog_10_method_65_code (2 : Nat) (Option.some Jvm.ClassFile.FieldType.int)) ∈ BG := BG_of (mt_2 (List.mem_of_getElem? (i := 81) rfl)) rfl
theorem mw_2_82 : (Jvm.Cond.methodLink "MazeBoard$Game" (146 : Nat) ({ cls := "MazeBoard$Game", name := "frightenHunters", desc := "()V" } : Jvm.MethodName)) ∈ BG := BG_of (mt_2 (List.mem_of_getElem? (i := 82) rfl)) rfl
theorem mw_2_84 : (Jvm.Cond.instanceMethod ({ cls := "MazeBoard$Game", name := "frightenHunters", desc := "()V" } : Jvm.MethodName)) ∈ BG := BG_of (mt_2 (List.mem_of_getElem? (i := 84) rfl)) rfl
theorem mw_2_85 : (Jvm.Cond.code ({ cls := "MazeBoard$Game", name := "frightenHunters", desc := "()V" } : Jvm.MethodName) prog_3_method_13_code (2 : Nat) (Option.none : Option Jvm.ClassFile.FieldType)) ∈ BG := BG_of (mt_2 (List.mem_of_getElem? (i := 85) rfl)) rfl
theorem mw_2_86 : (Jvm.Cond.methodLink "MazeBoard$Game" (158 : Nat) ({ cls := "MazeBoard$Game", name := "turnAbout", desc := "(LMazeBoard$Actor;)V" } : Jvm.MethodName)) ∈ BG := BG_of (mt_2 (List.mem_of_getElem? (i := 86) rfl)) rfl
theorem mw_2_88 : (Jvm.Cond.instanceMethod ({ cls := "MazeBoard$Game", name := "turnAbout", desc := "(LMazeBoard$Actor;)V" } : Jvm.MethodName)) ∈ BG := BG_of (mt_2 (List.mem_of_getElem? (i := 88) rfl)) rfl
theorem mw_2_89 : (Jvm.Cond.code ({ cls := "MazeBoard$Game", name := "turnAbout", desc := "(LMazeBoard$Actor;)V" } : Jvm.MethodName) prog_3_method_14_code (3 : Nat) (Option.none : Option Jvm.ClassFile.FieldType)) ∈ BG := BG_of (mt_2 (List.mem_of_getElem? (i := 89) rfl)) rfl
theorem mw_2_91 : (Jvm.Cond.static ({ cls := "MazeBoard", name := "opposite", desc := "(I)I" } : Jvm.MethodName)) ∈ BG := BG_of (mt_2 (List.mem_of_getElem? (i := 91) rfl)) rfl
theorem mw_2_92 : (Jvm.Cond.code ({ cls := "MazeBoard", name := "opposite", desc := "(I)I" } : Jvm.MethodName) prog_1_method_19_code (1 : Nat) (Option.some Jvm.ClassFile.FieldType.int)) ∈ BG := BG_of (mt_2 (List.mem_of_getElem? (i := 92) rfl)) rfl
theorem mw_2_93 : (Jvm.Cond.methodLink "MazeBoard$Game" (96 : Nat) ({ cls := "MazeBoard$Game", name := "moveHunter", desc := "(I)V" } : Jvm.MethodName)) ∈ BG := BG_of (mt_2 (List.mem_of_getElem? (i := 93) rfl)) rfl
theorem mw_2_95 : (Jvm.Cond.instanceMethod ({ cls := "MazeBoard$Game", name := "moveHunter", desc := "(I)V" } : Jvm.MethodName)) ∈ BG := BG_of (mt_2 (List.mem_of_getElem? (i := 95) rfl)) rfl
theorem mw_2_96 : (Jvm.Cond.code ({ cls := "MazeBoard$Game", name := "moveHunter", desc := "(I)V" } : Jvm.MethodName) prog_3_method_15_code (4 : Nat) (Option.none : Option Jvm.ClassFile.FieldType)) ∈ BG := BG_of (mt_2 (List.mem_of_getElem? (i := 96) rfl)) rfl
theorem mw_2_97 : (Jvm.Cond.methodLink "MazeBoard$Game" (169 : Nat) ({ cls := "MazeBoard$Game", name := "chooseDirection", desc := "(LMazeBoard$Actor;I)V" } : Jvm.MethodName)) ∈ BG := BG_of (mt_2 (List.mem_of_getElem? (i := 97) rfl)) rfl
theorem mw_2_99 : (Jvm.Cond.instanceMethod ({ cls := "MazeBoard$Game", name := "chooseDirection", desc := "(LMazeBoard$Actor;I)V" } : Jvm.MethodName)) ∈ BG := BG_of (mt_2 (List.mem_of_getElem? (i := 99) rfl)) rfl
theorem mw_2_100 : (Jvm.Cond.code ({ cls := "MazeBoard$Game", name := "chooseDirection", desc := "(LMazeBoard$Actor;I)V" } : Jvm.MethodName) prog_3_method_16_code (3 : Nat) (Option.none : Option Jvm.ClassFile.FieldType)) ∈ BG := BG_of (mt_2 (List.mem_of_getElem? (i := 100) rfl)) rfl
theorem mw_2_101 : (Jvm.Cond.methodLink "MazeBoard$Game" (179 : Nat) ({ cls := "MazeBoard$Game", name := "drawNumber", desc := "()I" } : Jvm.MethodName)) ∈ BG := BG_of (mt_2 (List.mem_of_getElem? (i := 101) rfl)) rfl
theorem mw_2_103 : (Jvm.Cond.instanceMethod ({ cls := "MazeBoard$Game", name := "drawNumber", desc := "()I" } : Jvm.MethodName)) ∈ BG := BG_of (mt_2 (List.mem_of_getElem? (i := 103) rfl)) rfl
theorem mw_2_104 : (Jvm.Cond.code ({ cls := "MazeBoard$Game", name := "drawNumber", desc := "()I" } : Jvm.MethodName) prog_3_method_17_code (1 : Nat) (Option.some Jvm.ClassFile.FieldType.int)) ∈ BG := BG_of (mt_2 (List.mem_of_getElem? (i := 104) rfl)) rfl
theorem mw_2_105 : (Jvm.Cond.constant "MazeBoard$Game" (194 : Nat) (1103515245 : Int32)) ∈ BG := BG_of (mt_2 (List.mem_of_getElem? (i := 105) rfl)) rfl
theorem mw_2_106 : (Jvm.Cond.methodLink "MazeBoard$Game" (183 : Nat) ({ cls := "MazeBoard$Game", name := "firstOpenFrom", desc := "(ILMazeBoard$Actor;)I" } : Jvm.MethodName)) ∈ BG := BG_of (mt_2 (List.mem_of_getElem? (i := 106) rfl)) rfl
theorem mw_2_108 : (Jvm.Cond.instanceMethod ({ cls := "MazeBoard$Game", name := "firstOpenFrom", desc := "(ILMazeBoard$Actor;)I" } : Jvm.MethodName)) ∈ BG := BG_of (mt_2 (List.mem_of_getElem? (i := 108) rfl)) rfl
theorem mw_2_109 : (Jvm.Cond.code ({ cls := "MazeBoard$Game", name := "firstOpenFrom", desc := "(ILMazeBoard$Actor;)I" } : Jvm.MethodName) prog_3_method_18_code (6 : Nat) (Option.some Jvm.ClassFile.FieldType.int)) ∈ BG := BG_of (mt_2 (List.mem_of_getElem? (i := 109) rfl)) rfl
theorem mw_2_110 : (Jvm.Cond.methodLink "MazeBoard$Game" (187 : Nat) ({ cls := "MazeBoard$Game", name := "setAim", desc := "(LMazeBoard$Actor;I)V" } : Jvm.MethodName)) ∈ BG := BG_of (mt_2 (List.mem_of_getElem? (i := 110) rfl)) rfl
theorem mw_2_112 : (Jvm.Cond.instanceMethod ({ cls := "MazeBoard$Game", name := "setAim", desc := "(LMazeBoard$Actor;I)V" } : Jvm.MethodName)) ∈ BG := BG_of (mt_2 (List.mem_of_getElem? (i := 112) rfl)) rfl
theorem mw_2_113 : (Jvm.Cond.code ({ cls := "MazeBoard$Game", name := "setAim", desc := "(LMazeBoard$Actor;I)V" } : Jvm.MethodName) prog_3_method_20_code (3 : Nat) (Option.none : Option Jvm.ClassFile.FieldType)) ∈ BG := BG_of (mt_2 (List.mem_of_getElem? (i := 113) rfl)) rfl
theorem mw_2_114 : (Jvm.Cond.methodLink "MazeBoard$Game" (214 : Nat) ({ cls := "MazeBoard$Actor", name := "aimAt", desc := "(II)V" } : Jvm.MethodName)) ∈ BG := BG_of (mt_2 (List.mem_of_getElem? (i := 114) rfl)) rfl
theorem mw_2_115 : (Jvm.Cond.instanceMethod ({ cls := "MazeBoard$Actor", name := "aimAt", desc := "(II)V" } : Jvm.MethodName)) ∈ BG := BG_of (mt_2 (List.mem_of_getElem? (i := 115) rfl)) rfl
theorem mw_2_116 : (Jvm.Cond.selects "MazeBoard$Actor" ({ cls := "MazeBoard$Actor", name := "aimAt", desc := "(II)V" } : Jvm.MethodName) ({ cls := "MazeBoard$Actor", name := "aimAt", desc := "(II)V" } : Jvm.MethodName)) ∈ BG := BG_of (mt_2 (List.mem_of_getElem? (i := 116) rfl)) rfl
theorem mw_2_117 : (Jvm.Cond.code ({ cls := "MazeBoard$Actor", name := "aimAt", desc := "(II)V" } : Jvm.MethodName) prog_2_method_7_code (3 : Nat) (Option.none : Option Jvm.ClassFile.FieldType)) ∈ BG := BG_of (mt_2 (List.mem_of_getElem? (i := 117) rfl)) rfl
theorem mw_2_118 : (Jvm.Cond.methodLink "MazeBoard$Game" (218 : Nat) ({ cls := "MazeBoard$Game", name := "isScatter", desc := "()Z" } : Jvm.MethodName)) ∈ BG := BG_of (mt_2 (List.mem_of_getElem? (i := 118) rfl)) rfl
theorem mw_2_120 : (Jvm.Cond.instanceMethod ({ cls := "MazeBoard$Game", name := "isScatter", desc := "()Z" } : Jvm.MethodName)) ∈ BG := BG_of (mt_2 (List.mem_of_getElem? (i := 120) rfl)) rfl
theorem mw_2_121 : (Jvm.Cond.code ({ cls := "MazeBoard$Game", name := "isScatter", desc := "()Z" } : Jvm.MethodName) prog_3_method_8_code (1 : Nat) (Option.some Jvm.ClassFile.FieldType.boolean)) ∈ BG := BG_of (mt_2 (List.mem_of_getElem? (i := 121) rfl)) rfl
theorem mw_2_122 : (Jvm.Cond.methodLink "MazeBoard$Game" (222 : Nat) ({ cls := "MazeBoard$Game", name := "isNearPlayer", desc := "(LMazeBoard$Actor;)Z" } : Jvm.MethodName)) ∈ BG := BG_of (mt_2 (List.mem_of_getElem? (i := 122) rfl)) rfl
theorem mw_2_124 : (Jvm.Cond.instanceMethod ({ cls := "MazeBoard$Game", name := "isNearPlayer", desc := "(LMazeBoard$Actor;)Z" } : Jvm.MethodName)) ∈ BG := BG_of (mt_2 (List.mem_of_getElem? (i := 124) rfl)) rfl
theorem mw_2_125 : (Jvm.Cond.code ({ cls := "MazeBoard$Game", name := "isNearPlayer", desc := "(LMazeBoard$Actor;)Z" } : Jvm.MethodName) prog_3_method_21_code (2 : Nat) (Option.some Jvm.ClassFile.FieldType.boolean)) ∈ BG := BG_of (mt_2 (List.mem_of_getElem? (i := 125) rfl)) rfl
theorem mw_2_127 : (Jvm.Cond.static ({ cls := "MazeBoard", name := "distance", desc := "(IIII)I" } : Jvm.MethodName)) ∈ BG := BG_of (mt_2 (List.mem_of_getElem? (i := 127) rfl)) rfl
theorem mw_2_128 : (Jvm.Cond.code ({ cls := "MazeBoard", name := "distance", desc := "(IIII)I" } : Jvm.MethodName) prog_1_method_20_code (6 : Nat) (Option.some Jvm.ClassFile.FieldType.int)) ∈ BG := BG_of (mt_2 (List.mem_of_getElem? (i := 128) rfl)) rfl
theorem mw_2_129 : (Jvm.Cond.methodLink "MazeBoard$Game" (226 : Nat) ({ cls := "MazeBoard$Game", name := "aimAtPlayer", desc := "(LMazeBoard$Actor;I)V" } : Jvm.MethodName)) ∈ BG := BG_of (mt_2 (List.mem_of_getElem? (i := 129) rfl)) rfl
theorem mw_2_131 : (Jvm.Cond.instanceMethod ({ cls := "MazeBoard$Game", name := "aimAtPlayer", desc := "(LMazeBoard$Actor;I)V" } : Jvm.MethodName)) ∈ BG := BG_of (mt_2 (List.mem_of_getElem? (i := 131) rfl)) rfl
theorem mw_2_132 : (Jvm.Cond.code ({ cls := "MazeBoard$Game", name := "aimAtPlayer", desc := "(LMazeBoard$Actor;I)V" } : Jvm.MethodName) prog_3_method_22_code (5 : Nat) (Option.none : Option Jvm.ClassFile.FieldType)) ∈ BG := BG_of (mt_2 (List.mem_of_getElem? (i := 132) rfl)) rfl
theorem mw_2_134 : (Jvm.Cond.static ({ cls := "MazeBoard", name := "columnStep", desc := "(I)I" } : Jvm.MethodName)) ∈ BG := BG_of (mt_2 (List.mem_of_getElem? (i := 134) rfl)) rfl
theorem mw_2_135 : (Jvm.Cond.code ({ cls := "MazeBoard", name := "columnStep", desc := "(I)I" } : Jvm.MethodName) prog_1_method_17_code (1 : Nat) (Option.some Jvm.ClassFile.FieldType.int)) ∈ BG := BG_of (mt_2 (List.mem_of_getElem? (i := 135) rfl)) rfl
theorem mw_2_137 : (Jvm.Cond.static ({ cls := "MazeBoard", name := "rowStep", desc := "(I)I" } : Jvm.MethodName)) ∈ BG := BG_of (mt_2 (List.mem_of_getElem? (i := 137) rfl)) rfl
theorem mw_2_138 : (Jvm.Cond.code ({ cls := "MazeBoard", name := "rowStep", desc := "(I)I" } : Jvm.MethodName) prog_1_method_18_code (1 : Nat) (Option.some Jvm.ClassFile.FieldType.int)) ∈ BG := BG_of (mt_2 (List.mem_of_getElem? (i := 138) rfl)) rfl
theorem mw_2_139 : (Jvm.Cond.methodLink "MazeBoard$Game" (190 : Nat) ({ cls := "MazeBoard$Game", name := "nearestToAim", desc := "(LMazeBoard$Actor;)I" } : Jvm.MethodName)) ∈ BG := BG_of (mt_2 (List.mem_of_getElem? (i := 139) rfl)) rfl
theorem mw_2_141 : (Jvm.Cond.instanceMethod ({ cls := "MazeBoard$Game", name := "nearestToAim", desc := "(LMazeBoard$Actor;)I" } : Jvm.MethodName)) ∈ BG := BG_of (mt_2 (List.mem_of_getElem? (i := 141) rfl)) rfl
theorem mw_2_142 : (Jvm.Cond.code ({ cls := "MazeBoard$Game", name := "nearestToAim", desc := "(LMazeBoard$Actor;)I" } : Jvm.MethodName) prog_3_method_19_code (9 : Nat) (Option.some Jvm.ClassFile.FieldType.int)) ∈ BG := BG_of (mt_2 (List.mem_of_getElem? (i := 142) rfl)) rfl
theorem mw_2_143 : (Jvm.Cond.constant "MazeBoard$Game" (197 : Nat) (2147483647 : Int32)) ∈ BG := BG_of (mt_2 (List.mem_of_getElem? (i := 143) rfl)) rfl
theorem mw_2_146 : (Jvm.Cond.constantFloat "MazeBoard$Game" (173 : Nat) (1044549468 : UInt32)) ∈ BG := BG_of (mt_2 (List.mem_of_getElem? (i := 146) rfl)) rfl
theorem mw_2_147 : (Jvm.Cond.constantFloat "MazeBoard$Game" (174 : Nat) (1025758986 : UInt32)) ∈ BG := BG_of (mt_2 (List.mem_of_getElem? (i := 147) rfl)) rfl
theorem mw_2_148 : (Jvm.Cond.methodLink "MazeBoard$Game" (175 : Nat) ({ cls := "MazeBoard$Actor", name := "isAt", desc := "(II)Z" } : Jvm.MethodName)) ∈ BG := BG_of (mt_2 (List.mem_of_getElem? (i := 148) rfl)) rfl
theorem mw_2_149 : (Jvm.Cond.instanceMethod ({ cls := "MazeBoard$Actor", name := "isAt", desc := "(II)Z" } : Jvm.MethodName)) ∈ BG := BG_of (mt_2 (List.mem_of_getElem? (i := 149) rfl)) rfl
theorem mw_2_150 : (Jvm.Cond.selects "MazeBoard$Actor" ({ cls := "MazeBoard$Actor", name := "isAt", desc := "(II)Z" } : Jvm.MethodName) ({ cls := "MazeBoard$Actor", name := "isAt", desc := "(II)Z" } : Jvm.MethodName)) ∈ BG := BG_of (mt_2 (List.mem_of_getElem? (i := 150) rfl)) rfl
theorem mw_2_151 : (Jvm.Cond.code ({ cls := "MazeBoard$Actor", name := "isAt", desc := "(II)Z" } : Jvm.MethodName) prog_2_method_5_code (3 : Nat) (Option.some Jvm.ClassFile.FieldType.boolean)) ∈ BG := BG_of (mt_2 (List.mem_of_getElem? (i := 151) rfl)) rfl
theorem mw_2_152 : (Jvm.Cond.methodLink "MazeBoard$Game" (100 : Nat) ({ cls := "MazeBoard$Game", name := "meetHunters", desc := "()V" } : Jvm.MethodName)) ∈ BG := BG_of (mt_2 (List.mem_of_getElem? (i := 152) rfl)) rfl
theorem mw_2_154 : (Jvm.Cond.instanceMethod ({ cls := "MazeBoard$Game", name := "meetHunters", desc := "()V" } : Jvm.MethodName)) ∈ BG := BG_of (mt_2 (List.mem_of_getElem? (i := 154) rfl)) rfl
theorem mw_2_155 : (Jvm.Cond.code ({ cls := "MazeBoard$Game", name := "meetHunters", desc := "()V" } : Jvm.MethodName) prog_3_method_23_code (3 : Nat) (Option.none : Option Jvm.ClassFile.FieldType)) ∈ BG := BG_of (mt_2 (List.mem_of_getElem? (i := 155) rfl)) rfl
theorem mw_2_156 : (Jvm.Cond.methodLink "MazeBoard$Game" (235 : Nat) ({ cls := "MazeBoard$Actor", name := "meets", desc := "(LMazeBoard$Actor;)Z" } : Jvm.MethodName)) ∈ BG := BG_of (mt_2 (List.mem_of_getElem? (i := 156) rfl)) rfl
theorem mw_2_157 : (Jvm.Cond.instanceMethod ({ cls := "MazeBoard$Actor", name := "meets", desc := "(LMazeBoard$Actor;)Z" } : Jvm.MethodName)) ∈ BG := BG_of (mt_2 (List.mem_of_getElem? (i := 157) rfl)) rfl
theorem mw_2_158 : (Jvm.Cond.selects "MazeBoard$Actor" ({ cls := "MazeBoard$Actor", name := "meets", desc := "(LMazeBoard$Actor;)Z" } : Jvm.MethodName) ({ cls := "MazeBoard$Actor", name := "meets", desc := "(LMazeBoard$Actor;)Z" } : Jvm.MethodName)) ∈ BG := BG_of (mt_2 (List.mem_of_getElem? (i := 158) rfl)) rfl
theorem mw_2_159 : (Jvm.Cond.code ({ cls := "MazeBoard$Actor", name := "meets", desc := "(LMazeBoard$Actor;)Z" } : Jvm.MethodName) prog_2_method_6_code (2 : Nat) (Option.some Jvm.ClassFile.FieldType.boolean)) ∈ BG := BG_of (mt_2 (List.mem_of_getElem? (i := 159) rfl)) rfl
theorem mw_2_160 : (Jvm.Cond.methodLink "MazeBoard$Actor" (48 : Nat) ({ cls := "MazeBoard$Actor", name := "isAt", desc := "(II)Z" } : Jvm.MethodName)) ∈ BG := BG_of (mt_2 (List.mem_of_getElem? (i := 160) rfl)) rfl
theorem mw_2_161 : (Jvm.Cond.methodLink "MazeBoard$Game" (238 : Nat) ({ cls := "MazeBoard$Game", name := "eatHunter", desc := "(LMazeBoard$Actor;)V" } : Jvm.MethodName)) ∈ BG := BG_of (mt_2 (List.mem_of_getElem? (i := 161) rfl)) rfl
theorem mw_2_163 : (Jvm.Cond.instanceMethod ({ cls := "MazeBoard$Game", name := "eatHunter", desc := "(LMazeBoard$Actor;)V" } : Jvm.MethodName)) ∈ BG := BG_of (mt_2 (List.mem_of_getElem? (i := 163) rfl)) rfl
theorem mw_2_164 : (Jvm.Cond.code ({ cls := "MazeBoard$Game", name := "eatHunter", desc := "(LMazeBoard$Actor;)V" } : Jvm.MethodName) prog_3_method_24_code (2 : Nat) (Option.none : Option Jvm.ClassFile.FieldType)) ∈ BG := BG_of (mt_2 (List.mem_of_getElem? (i := 164) rfl)) rfl
theorem mw_2_165 : (Jvm.Cond.methodLink "MazeBoard$Game" (241 : Nat) ({ cls := "MazeBoard$Game", name := "loseLife", desc := "()V" } : Jvm.MethodName)) ∈ BG := BG_of (mt_2 (List.mem_of_getElem? (i := 165) rfl)) rfl
theorem mw_2_167 : (Jvm.Cond.instanceMethod ({ cls := "MazeBoard$Game", name := "loseLife", desc := "()V" } : Jvm.MethodName)) ∈ BG := BG_of (mt_2 (List.mem_of_getElem? (i := 167) rfl)) rfl
theorem mw_2_168 : (Jvm.Cond.code ({ cls := "MazeBoard$Game", name := "loseLife", desc := "()V" } : Jvm.MethodName) prog_3_method_25_code (1 : Nat) (Option.none : Option Jvm.ClassFile.FieldType)) ∈ BG := BG_of (mt_2 (List.mem_of_getElem? (i := 168) rfl)) rfl
theorem mw_2_169 : (Jvm.Cond.methodLink "MazeBoard" (44 : Nat) ({ cls := "MazeBoard$Speaker", name := "playFrame", desc := "(LMazeBoard$Game;)V" } : Jvm.MethodName)) ∈ BG := BG_of (mt_2 (List.mem_of_getElem? (i := 169) rfl)) rfl
theorem mw_2_170 : (Jvm.Cond.instanceMethod ({ cls := "MazeBoard$Speaker", name := "playFrame", desc := "(LMazeBoard$Game;)V" } : Jvm.MethodName)) ∈ BG := BG_of (mt_2 (List.mem_of_getElem? (i := 170) rfl)) rfl
theorem mw_2_171 : (Jvm.Cond.selects "MazeBoard$Speaker" ({ cls := "MazeBoard$Speaker", name := "playFrame", desc := "(LMazeBoard$Game;)V" } : Jvm.MethodName) ({ cls := "MazeBoard$Speaker", name := "playFrame", desc := "(LMazeBoard$Game;)V" } : Jvm.MethodName)) ∈ BG := BG_of (mt_2 (List.mem_of_getElem? (i := 171) rfl)) rfl
theorem mw_2_172 : (Jvm.Cond.code ({ cls := "MazeBoard$Speaker", name := "playFrame", desc := "(LMazeBoard$Game;)V" } : Jvm.MethodName) prog_6_method_3_code (3 : Nat) (Option.none : Option Jvm.ClassFile.FieldType)) ∈ BG := BG_of (mt_2 (List.mem_of_getElem? (i := 172) rfl)) rfl
theorem mw_2_173 : (Jvm.Cond.methodLink "MazeBoard$Speaker" (21 : Nat) ({ cls := "MazeBoard$Voice", name := "passFrame", desc := "()V" } : Jvm.MethodName)) ∈ BG := BG_of (mt_2 (List.mem_of_getElem? (i := 173) rfl)) rfl
theorem mw_2_174 : (Jvm.Cond.instanceMethod ({ cls := "MazeBoard$Voice", name := "passFrame", desc := "()V" } : Jvm.MethodName)) ∈ BG := BG_of (mt_2 (List.mem_of_getElem? (i := 174) rfl)) rfl
theorem mw_2_175 : (Jvm.Cond.selects "MazeBoard$Voice" ({ cls := "MazeBoard$Voice", name := "passFrame", desc := "()V" } : Jvm.MethodName) ({ cls := "MazeBoard$Voice", name := "passFrame", desc := "()V" } : Jvm.MethodName)) ∈ BG := BG_of (mt_2 (List.mem_of_getElem? (i := 175) rfl)) rfl
theorem mw_2_176 : (Jvm.Cond.code ({ cls := "MazeBoard$Voice", name := "passFrame", desc := "()V" } : Jvm.MethodName) prog_7_method_2_code (1 : Nat) (Option.none : Option Jvm.ClassFile.FieldType)) ∈ BG := BG_of (mt_2 (List.mem_of_getElem? (i := 176) rfl)) rfl
theorem mw_2_177 : (Jvm.Cond.constantFloat "MazeBoard$Voice" (21 : Nat) (1063675494 : UInt32)) ∈ BG := BG_of (mt_2 (List.mem_of_getElem? (i := 177) rfl)) rfl
theorem mw_2_178 : (Jvm.Cond.methodLink "MazeBoard$Speaker" (30 : Nat) ({ cls := "MazeBoard$Voice", name := "ring", desc := "(FI)V" } : Jvm.MethodName)) ∈ BG := BG_of (mt_2 (List.mem_of_getElem? (i := 178) rfl)) rfl
theorem mw_2_179 : (Jvm.Cond.instanceMethod ({ cls := "MazeBoard$Voice", name := "ring", desc := "(FI)V" } : Jvm.MethodName)) ∈ BG := BG_of (mt_2 (List.mem_of_getElem? (i := 179) rfl)) rfl
theorem mw_2_180 : (Jvm.Cond.selects "MazeBoard$Voice" ({ cls := "MazeBoard$Voice", name := "ring", desc := "(FI)V" } : Jvm.MethodName) ({ cls := "MazeBoard$Voice", name := "ring", desc := "(FI)V" } : Jvm.MethodName)) ∈ BG := BG_of (mt_2 (List.mem_of_getElem? (i := 180) rfl)) rfl
theorem mw_2_181 : (Jvm.Cond.code ({ cls := "MazeBoard$Voice", name := "ring", desc := "(FI)V" } : Jvm.MethodName) prog_7_method_3_code (3 : Nat) (Option.none : Option Jvm.ClassFile.FieldType)) ∈ BG := BG_of (mt_2 (List.mem_of_getElem? (i := 181) rfl)) rfl
theorem mw_2_182 : (Jvm.Cond.constantFloat "MazeBoard$Speaker" (37 : Nat) (1056964608 : UInt32)) ∈ BG := BG_of (mt_2 (List.mem_of_getElem? (i := 182) rfl)) rfl
theorem mw_2_183 : (Jvm.Cond.methodLink "MazeBoard$Speaker" (38 : Nat) ({ cls := "MazeBoard$Game", name := "humPitch", desc := "()I" } : Jvm.MethodName)) ∈ BG := BG_of (mt_2 (List.mem_of_getElem? (i := 183) rfl)) rfl
theorem mw_2_184 : (Jvm.Cond.instanceMethod ({ cls := "MazeBoard$Game", name := "humPitch", desc := "()I" } : Jvm.MethodName)) ∈ BG := BG_of (mt_2 (List.mem_of_getElem? (i := 184) rfl)) rfl
theorem mw_2_185 : (Jvm.Cond.selects "MazeBoard$Game" ({ cls := "MazeBoard$Game", name := "humPitch", desc := "()I" } : Jvm.MethodName) ({ cls := "MazeBoard$Game", name := "humPitch", desc := "()I" } : Jvm.MethodName)) ∈ BG := BG_of (mt_2 (List.mem_of_getElem? (i := 185) rfl)) rfl
theorem mw_2_186 : (Jvm.Cond.code ({ cls := "MazeBoard$Game", name := "humPitch", desc := "()I" } : Jvm.MethodName) prog_3_method_26_code (1 : Nat) (Option.some Jvm.ClassFile.FieldType.int)) ∈ BG := BG_of (mt_2 (List.mem_of_getElem? (i := 186) rfl)) rfl
theorem mw_2_187 : (Jvm.Cond.constantFloat "MazeBoard$Speaker" (45 : Nat) (1069547520 : UInt32)) ∈ BG := BG_of (mt_2 (List.mem_of_getElem? (i := 187) rfl)) rfl
theorem mw_2_188 : (Jvm.Cond.methodLink "MazeBoard" (50 : Nat) ({ cls := "MazeBoard", name := "reset", desc := "()V" } : Jvm.MethodName)) ∈ BG := BG_of (mt_2 (List.mem_of_getElem? (i := 188) rfl)) rfl
theorem mw_2_190 : (Jvm.Cond.instanceMethod ({ cls := "MazeBoard", name := "reset", desc := "()V" } : Jvm.MethodName)) ∈ BG := BG_of (mt_2 (List.mem_of_getElem? (i := 190) rfl)) rfl
theorem mw_2_191 : (Jvm.Cond.code ({ cls := "MazeBoard", name := "reset", desc := "()V" } : Jvm.MethodName) prog_1_method_14_code (1 : Nat) (Option.none : Option Jvm.ClassFile.FieldType)) ∈ BG := BG_of (mt_2 (List.mem_of_getElem? (i := 191) rfl)) rfl
theorem mw_2_192 : (Jvm.Cond.methodLink "MazeBoard" (142 : Nat) ({ cls := "MazeBoard$Game", name := "clear", desc := "()V" } : Jvm.MethodName)) ∈ BG := BG_of (mt_2 (List.mem_of_getElem? (i := 192) rfl)) rfl
theorem mw_2_193 : (Jvm.Cond.methodLink "MazeBoard" (145 : Nat) ({ cls := "MazeBoard$Speaker", name := "silence", desc := "()V" } : Jvm.MethodName)) ∈ BG := BG_of (mt_2 (List.mem_of_getElem? (i := 193) rfl)) rfl
theorem mw_2_194 : (Jvm.Cond.instanceMethod ({ cls := "MazeBoard$Speaker", name := "silence", desc := "()V" } : Jvm.MethodName)) ∈ BG := BG_of (mt_2 (List.mem_of_getElem? (i := 194) rfl)) rfl
theorem mw_2_195 : (Jvm.Cond.selects "MazeBoard$Speaker" ({ cls := "MazeBoard$Speaker", name := "silence", desc := "()V" } : Jvm.MethodName) ({ cls := "MazeBoard$Speaker", name := "silence", desc := "()V" } : Jvm.MethodName)) ∈ BG := BG_of (mt_2 (List.mem_of_getElem? (i := 195) rfl)) rfl
theorem mw_2_196 : (Jvm.Cond.code ({ cls := "MazeBoard$Speaker", name := "silence", desc := "()V" } : Jvm.MethodName) prog_6_method_2_code (2 : Nat) (Option.none : Option Jvm.ClassFile.FieldType)) ∈ BG := BG_of (mt_2 (List.mem_of_getElem? (i := 196) rfl)) rfl
theorem mw_2_197 : (Jvm.Cond.methodLink "MazeBoard$Speaker" (18 : Nat) ({ cls := "MazeBoard$Voice", name := "silence", desc := "()V" } : Jvm.MethodName)) ∈ BG := BG_of (mt_2 (List.mem_of_getElem? (i := 197) rfl)) rfl
theorem mw_2_198 : (Jvm.Cond.instanceMethod ({ cls := "MazeBoard$Voice", name := "silence", desc := "()V" } : Jvm.MethodName)) ∈ BG := BG_of (mt_2 (List.mem_of_getElem? (i := 198) rfl)) rfl
theorem mw_2_199 : (Jvm.Cond.selects "MazeBoard$Voice" ({ cls := "MazeBoard$Voice", name := "silence", desc := "()V" } : Jvm.MethodName) ({ cls := "MazeBoard$Voice", name := "silence", desc := "()V" } : Jvm.MethodName)) ∈ BG := BG_of (mt_2 (List.mem_of_getElem? (i := 199) rfl)) rfl
theorem mw_2_200 : (Jvm.Cond.code ({ cls := "MazeBoard$Voice", name := "silence", desc := "()V" } : Jvm.MethodName) prog_7_method_4_code (1 : Nat) (Option.none : Option Jvm.ClassFile.FieldType)) ∈ BG := BG_of (mt_2 (List.mem_of_getElem? (i := 200) rfl)) rfl
theorem mw_2_201 : (Jvm.Cond.methodLink "MazeBoard$Voice" (22 : Nat) ({ cls := "MazeBoard$Voice", name := "ring", desc := "(FI)V" } : Jvm.MethodName)) ∈ BG := BG_of (mt_2 (List.mem_of_getElem? (i := 201) rfl)) rfl
theorem mw_2_202 : (Jvm.Cond.methodLink "MazeBoardLaw" (36 : Nat) ({ cls := "MazeBoard", name := "look", desc := "(I)I" } : Jvm.MethodName)) ∈ BG := BG_of (mt_2 (List.mem_of_getElem? (i := 202) rfl)) rfl
theorem mw_2_203 : (Jvm.Cond.instanceMethod ({ cls := "MazeBoard", name := "look", desc := "(I)I" } : Jvm.MethodName)) ∈ BG := BG_of (mt_2 (List.mem_of_getElem? (i := 203) rfl)) rfl
theorem mw_2_204 : (Jvm.Cond.selects "MazeBoard" ({ cls := "MazeBoard", name := "look", desc := "(I)I" } : Jvm.MethodName) ({ cls := "MazeBoard", name := "look", desc := "(I)I" } : Jvm.MethodName)) ∈ BG := BG_of (mt_2 (List.mem_of_getElem? (i := 204) rfl)) rfl
theorem mw_2_205 : (Jvm.Cond.code ({ cls := "MazeBoard", name := "look", desc := "(I)I" } : Jvm.MethodName) prog_1_method_7_code (2 : Nat) (Option.some Jvm.ClassFile.FieldType.int)) ∈ BG := BG_of (mt_2 (List.mem_of_getElem? (i := 205) rfl)) rfl
theorem mw_2_206 : (Jvm.Cond.methodLink "MazeBoardLaw" (40 : Nat) ({ cls := "MazeBoard", name := "actor", desc := "(II)I" } : Jvm.MethodName)) ∈ BG := BG_of (mt_2 (List.mem_of_getElem? (i := 206) rfl)) rfl
theorem mw_2_207 : (Jvm.Cond.instanceMethod ({ cls := "MazeBoard", name := "actor", desc := "(II)I" } : Jvm.MethodName)) ∈ BG := BG_of (mt_2 (List.mem_of_getElem? (i := 207) rfl)) rfl
theorem mw_2_208 : (Jvm.Cond.selects "MazeBoard" ({ cls := "MazeBoard", name := "actor", desc := "(II)I" } : Jvm.MethodName) ({ cls := "MazeBoard", name := "actor", desc := "(II)I" } : Jvm.MethodName)) ∈ BG := BG_of (mt_2 (List.mem_of_getElem? (i := 208) rfl)) rfl
theorem mw_2_209 : (Jvm.Cond.code ({ cls := "MazeBoard", name := "actor", desc := "(II)I" } : Jvm.MethodName) prog_1_method_8_code (4 : Nat) (Option.some Jvm.ClassFile.FieldType.int)) ∈ BG := BG_of (mt_2 (List.mem_of_getElem? (i := 209) rfl)) rfl
theorem mw_2_210 : (Jvm.Cond.methodLink "MazeBoardLaw" (45 : Nat) ({ cls := "MazeBoard", name := "progress", desc := "(I)F" } : Jvm.MethodName)) ∈ BG := BG_of (mt_2 (List.mem_of_getElem? (i := 210) rfl)) rfl
theorem mw_2_211 : (Jvm.Cond.instanceMethod ({ cls := "MazeBoard", name := "progress", desc := "(I)F" } : Jvm.MethodName)) ∈ BG := BG_of (mt_2 (List.mem_of_getElem? (i := 211) rfl)) rfl
theorem mw_2_212 : (Jvm.Cond.selects "MazeBoard" ({ cls := "MazeBoard", name := "progress", desc := "(I)F" } : Jvm.MethodName) ({ cls := "MazeBoard", name := "progress", desc := "(I)F" } : Jvm.MethodName)) ∈ BG := BG_of (mt_2 (List.mem_of_getElem? (i := 212) rfl)) rfl
theorem mw_2_213 : (Jvm.Cond.code ({ cls := "MazeBoard", name := "progress", desc := "(I)F" } : Jvm.MethodName) prog_1_method_9_code (2 : Nat) (Option.some Jvm.ClassFile.FieldType.float)) ∈ BG := BG_of (mt_2 (List.mem_of_getElem? (i := 213) rfl)) rfl
theorem mw_2_214 : (Jvm.Cond.methodLink "MazeBoardLaw" (50 : Nat) ({ cls := "MazeBoard", name := "cell", desc := "(II)I" } : Jvm.MethodName)) ∈ BG := BG_of (mt_2 (List.mem_of_getElem? (i := 214) rfl)) rfl
theorem mw_2_215 : (Jvm.Cond.instanceMethod ({ cls := "MazeBoard", name := "cell", desc := "(II)I" } : Jvm.MethodName)) ∈ BG := BG_of (mt_2 (List.mem_of_getElem? (i := 215) rfl)) rfl
theorem mw_2_216 : (Jvm.Cond.selects "MazeBoard" ({ cls := "MazeBoard", name := "cell", desc := "(II)I" } : Jvm.MethodName) ({ cls := "MazeBoard", name := "cell", desc := "(II)I" } : Jvm.MethodName)) ∈ BG := BG_of (mt_2 (List.mem_of_getElem? (i := 216) rfl)) rfl
theorem mw_2_217 : (Jvm.Cond.code ({ cls := "MazeBoard", name := "cell", desc := "(II)I" } : Jvm.MethodName) prog_1_method_10_code (3 : Nat) (Option.some Jvm.ClassFile.FieldType.int)) ∈ BG := BG_of (mt_2 (List.mem_of_getElem? (i := 217) rfl)) rfl
theorem mw_2_218 : (Jvm.Cond.methodLink "MazeBoard" (111 : Nat) ({ cls := "MazeBoard$Maze", name := "whatIs", desc := "(II)I" } : Jvm.MethodName)) ∈ BG := BG_of (mt_2 (List.mem_of_getElem? (i := 218) rfl)) rfl
theorem mw_2_219 : (Jvm.Cond.methodLink "MazeBoardLaw" (54 : Nat) ({ cls := "MazeBoard", name := "point", desc := "(II)I" } : Jvm.MethodName)) ∈ BG := BG_of (mt_2 (List.mem_of_getElem? (i := 219) rfl)) rfl
theorem mw_2_220 : (Jvm.Cond.instanceMethod ({ cls := "MazeBoard", name := "point", desc := "(II)I" } : Jvm.MethodName)) ∈ BG := BG_of (mt_2 (List.mem_of_getElem? (i := 220) rfl)) rfl
theorem mw_2_221 : (Jvm.Cond.selects "MazeBoard" ({ cls := "MazeBoard", name := "point", desc := "(II)I" } : Jvm.MethodName) ({ cls := "MazeBoard", name := "point", desc := "(II)I" } : Jvm.MethodName)) ∈ BG := BG_of (mt_2 (List.mem_of_getElem? (i := 221) rfl)) rfl
theorem mw_2_222 : (Jvm.Cond.code ({ cls := "MazeBoard", name := "point", desc := "(II)I" } : Jvm.MethodName) prog_1_method_11_code (4 : Nat) (Option.some Jvm.ClassFile.FieldType.int)) ∈ BG := BG_of (mt_2 (List.mem_of_getElem? (i := 222) rfl)) rfl
theorem mw_2_223 : (Jvm.Cond.methodLink "MazeBoard" (117 : Nat) ({ cls := "MazeBoard$Picture", name := "covers", desc := "(LMazeBoard$Actor;IIII)Z" } : Jvm.MethodName)) ∈ BG := BG_of (mt_2 (List.mem_of_getElem? (i := 223) rfl)) rfl
theorem mw_2_224 : (Jvm.Cond.static ({ cls := "MazeBoard$Picture", name := "covers", desc := "(LMazeBoard$Actor;IIII)Z" } : Jvm.MethodName)) ∈ BG := BG_of (mt_2 (List.mem_of_getElem? (i := 224) rfl)) rfl
theorem mw_2_225 : (Jvm.Cond.code ({ cls := "MazeBoard$Picture", name := "covers", desc := "(LMazeBoard$Actor;IIII)Z" } : Jvm.MethodName) prog_5_method_4_code (12 : Nat) (Option.some Jvm.ClassFile.FieldType.boolean)) ∈ BG := BG_of (mt_2 (List.mem_of_getElem? (i := 225) rfl)) rfl
theorem mw_2_226 : (Jvm.Cond.constantFloat "MazeBoard$Picture" (31 : Nat) (1082130432 : UInt32)) ∈ BG := BG_of (mt_2 (List.mem_of_getElem? (i := 226) rfl)) rfl
theorem mw_2_229 : (Jvm.Cond.methodLink "MazeBoard$Picture" (49 : Nat) ({ cls := "java/lang/Math", name := "floorMod", desc := "(II)I" } : Jvm.MethodName)) ∈ BG := BG_of (mt_2 (List.mem_of_getElem? (i := 229) rfl)) rfl
theorem mw_2_230 : (Jvm.Cond.static ({ cls := "java/lang/Math", name := "floorMod", desc := "(II)I" } : Jvm.MethodName)) ∈ BG := BG_of (mt_2 (List.mem_of_getElem? (i := 230) rfl)) rfl
theorem mw_2_231 : (Jvm.Cond.code ({ cls := "java/lang/Math", name := "floorMod", desc := "(II)I" } : Jvm.MethodName) prog_10_method_50_code (3 : Nat) (Option.some Jvm.ClassFile.FieldType.int)) ∈ BG := BG_of (mt_2 (List.mem_of_getElem? (i := 231) rfl)) rfl
theorem mw_2_232 : (Jvm.Cond.methodLink "MazeBoard$Picture" (17 : Nat) ({ cls := "MazeBoard$Picture", name := "isMiddle", desc := "(I)Z" } : Jvm.MethodName)) ∈ BG := BG_of (mt_2 (List.mem_of_getElem? (i := 232) rfl)) rfl
theorem mw_2_233 : (Jvm.Cond.static ({ cls := "MazeBoard$Picture", name := "isMiddle", desc := "(I)Z" } : Jvm.MethodName)) ∈ BG := BG_of (mt_2 (List.mem_of_getElem? (i := 233) rfl)) rfl
theorem mw_2_234 : (Jvm.Cond.code ({ cls := "MazeBoard$Picture", name := "isMiddle", desc := "(I)Z" } : Jvm.MethodName) prog_5_method_5_code (1 : Nat) (Option.some Jvm.ClassFile.FieldType.boolean)) ∈ BG := BG_of (mt_2 (List.mem_of_getElem? (i := 234) rfl)) rfl
theorem mw_2_235 : (Jvm.Cond.methodLink "MazeBoard$Picture" (54 : Nat) ({ cls := "MazeBoard$Picture", name := "isMouth", desc := "(III)Z" } : Jvm.MethodName)) ∈ BG := BG_of (mt_2 (List.mem_of_getElem? (i := 235) rfl)) rfl
theorem mw_2_236 : (Jvm.Cond.static ({ cls := "MazeBoard$Picture", name := "isMouth", desc := "(III)Z" } : Jvm.MethodName)) ∈ BG := BG_of (mt_2 (List.mem_of_getElem? (i := 236) rfl)) rfl
theorem mw_2_237 : (Jvm.Cond.code ({ cls := "MazeBoard$Picture", name := "isMouth", desc := "(III)Z" } : Jvm.MethodName) prog_5_method_6_code (3 : Nat) (Option.some Jvm.ClassFile.FieldType.boolean)) ∈ BG := BG_of (mt_2 (List.mem_of_getElem? (i := 237) rfl)) rfl
theorem mw_2_238 : (Jvm.Cond.methodLink "MazeBoard" (121 : Nat) ({ cls := "MazeBoard$Picture", name := "spriteColour", desc := "(LMazeBoard$Actor;I)I" } : Jvm.MethodName)) ∈ BG := BG_of (mt_2 (List.mem_of_getElem? (i := 238) rfl)) rfl
theorem mw_2_239 : (Jvm.Cond.static ({ cls := "MazeBoard$Picture", name := "spriteColour", desc := "(LMazeBoard$Actor;I)I" } : Jvm.MethodName)) ∈ BG := BG_of (mt_2 (List.mem_of_getElem? (i := 239) rfl)) rfl
theorem mw_3_0 : (Jvm.Cond.code ({ cls := "MazeBoard$Picture", name := "spriteColour", desc := "(LMazeBoard$Actor;I)I" } : Jvm.MethodName) prog_5_method_3_code (2 : Nat) (Option.some Jvm.ClassFile.FieldType.int)) ∈ BG := BG_of (mt_3 (List.mem_of_getElem? (i := 0) rfl)) rfl
theorem mw_3_1 : (Jvm.Cond.methodLink "MazeBoard" (125 : Nat) ({ cls := "MazeBoard$Picture", name := "tileColour", desc := "(LMazeBoard$Maze;III)I" } : Jvm.MethodName)) ∈ BG := BG_of (mt_3 (List.mem_of_getElem? (i := 1) rfl)) rfl
theorem mw_3_2 : (Jvm.Cond.static ({ cls := "MazeBoard$Picture", name := "tileColour", desc := "(LMazeBoard$Maze;III)I" } : Jvm.MethodName)) ∈ BG := BG_of (mt_3 (List.mem_of_getElem? (i := 2) rfl)) rfl
theorem mw_3_3 : (Jvm.Cond.code ({ cls := "MazeBoard$Picture", name := "tileColour", desc := "(LMazeBoard$Maze;III)I" } : Jvm.MethodName) prog_5_method_2_code (6 : Nat) (Option.some Jvm.ClassFile.FieldType.int)) ∈ BG := BG_of (mt_3 (List.mem_of_getElem? (i := 3) rfl)) rfl
theorem mw_3_4 : (Jvm.Cond.methodLink "MazeBoard$Picture" (11 : Nat) ({ cls := "MazeBoard$Maze", name := "whatIs", desc := "(II)I" } : Jvm.MethodName)) ∈ BG := BG_of (mt_3 (List.mem_of_getElem? (i := 4) rfl)) rfl
theorem mw_3_5 : (Jvm.Cond.methodLink "MazeBoardLaw" (58 : Nat) ({ cls := "MazeBoard", name := "volume", desc := "(I)F" } : Jvm.MethodName)) ∈ BG := BG_of (mt_3 (List.mem_of_getElem? (i := 5) rfl)) rfl
theorem mw_3_6 : (Jvm.Cond.instanceMethod ({ cls := "MazeBoard", name := "volume", desc := "(I)F" } : Jvm.MethodName)) ∈ BG := BG_of (mt_3 (List.mem_of_getElem? (i := 6) rfl)) rfl
theorem mw_3_7 : (Jvm.Cond.selects "MazeBoard" ({ cls := "MazeBoard", name := "volume", desc := "(I)F" } : Jvm.MethodName) ({ cls := "MazeBoard", name := "volume", desc := "(I)F" } : Jvm.MethodName)) ∈ BG := BG_of (mt_3 (List.mem_of_getElem? (i := 7) rfl)) rfl
theorem mw_3_8 : (Jvm.Cond.code ({ cls := "MazeBoard", name := "volume", desc := "(I)F" } : Jvm.MethodName) prog_1_method_12_code (2 : Nat) (Option.some Jvm.ClassFile.FieldType.float)) ∈ BG := BG_of (mt_3 (List.mem_of_getElem? (i := 8) rfl)) rfl
theorem mw_3_9 : (Jvm.Cond.methodLink "MazeBoardLaw" (62 : Nat) ({ cls := "MazeBoard", name := "sound", desc := "()F" } : Jvm.MethodName)) ∈ BG := BG_of (mt_3 (List.mem_of_getElem? (i := 9) rfl)) rfl
theorem mw_3_10 : (Jvm.Cond.instanceMethod ({ cls := "MazeBoard", name := "sound", desc := "()F" } : Jvm.MethodName)) ∈ BG := BG_of (mt_3 (List.mem_of_getElem? (i := 10) rfl)) rfl
theorem mw_3_11 : (Jvm.Cond.selects "MazeBoard" ({ cls := "MazeBoard", name := "sound", desc := "()F" } : Jvm.MethodName) ({ cls := "MazeBoard", name := "sound", desc := "()F" } : Jvm.MethodName)) ∈ BG := BG_of (mt_3 (List.mem_of_getElem? (i := 11) rfl)) rfl
theorem mw_3_12 : (Jvm.Cond.code ({ cls := "MazeBoard", name := "sound", desc := "()F" } : Jvm.MethodName) prog_1_method_13_code (3 : Nat) (Option.some Jvm.ClassFile.FieldType.float)) ∈ BG := BG_of (mt_3 (List.mem_of_getElem? (i := 12) rfl)) rfl
theorem mw_3_13 : (Jvm.Cond.methodLink "MazeBoard" (138 : Nat) ({ cls := "MazeBoard$Voice", name := "sample", desc := "()F" } : Jvm.MethodName)) ∈ BG := BG_of (mt_3 (List.mem_of_getElem? (i := 13) rfl)) rfl
theorem mw_3_14 : (Jvm.Cond.instanceMethod ({ cls := "MazeBoard$Voice", name := "sample", desc := "()F" } : Jvm.MethodName)) ∈ BG := BG_of (mt_3 (List.mem_of_getElem? (i := 14) rfl)) rfl
theorem mw_3_15 : (Jvm.Cond.selects "MazeBoard$Voice" ({ cls := "MazeBoard$Voice", name := "sample", desc := "()F" } : Jvm.MethodName) ({ cls := "MazeBoard$Voice", name := "sample", desc := "()F" } : Jvm.MethodName)) ∈ BG := BG_of (mt_3 (List.mem_of_getElem? (i := 15) rfl)) rfl
theorem mw_3_16 : (Jvm.Cond.code ({ cls := "MazeBoard$Voice", name := "sample", desc := "()F" } : Jvm.MethodName) prog_7_method_5_code (1 : Nat) (Option.some Jvm.ClassFile.FieldType.float)) ∈ BG := BG_of (mt_3 (List.mem_of_getElem? (i := 16) rfl)) rfl
theorem mw_3_17 : (Jvm.Cond.constantFloat "MazeBoard$Voice" (26 : Nat) (1089470464 : UInt32)) ∈ BG := BG_of (mt_3 (List.mem_of_getElem? (i := 17) rfl)) rfl
theorem mw_3_18 : (Jvm.Cond.classLink "MazeBoardLaw" (10 : Nat) "MazeBoardModel") ∈ BG := BG_of (mt_3 (List.mem_of_getElem? (i := 18) rfl)) rfl
theorem mw_3_19 : (Jvm.Cond.instantiable "MazeBoardModel" (31 : Nat)) ∈ BG := BG_of (mt_3 (List.mem_of_getElem? (i := 19) rfl)) rfl
theorem mw_3_20 : (Jvm.Cond.methodLink "MazeBoardLaw" (12 : Nat) ({ cls := "MazeBoardModel", name := "<init>", desc := "()V" } : Jvm.MethodName)) ∈ BG := BG_of (mt_3 (List.mem_of_getElem? (i := 20) rfl)) rfl
theorem mw_3_21 : (Jvm.Cond.instanceMethod ({ cls := "MazeBoardModel", name := "<init>", desc := "()V" } : Jvm.MethodName)) ∈ BG := BG_of (mt_3 (List.mem_of_getElem? (i := 21) rfl)) rfl
theorem mw_3_22 : (Jvm.Cond.code ({ cls := "MazeBoardModel", name := "<init>", desc := "()V" } : Jvm.MethodName) prog_9_method_1_code (1 : Nat) (Option.none : Option Jvm.ClassFile.FieldType)) ∈ BG := BG_of (mt_3 (List.mem_of_getElem? (i := 22) rfl)) rfl
theorem mw_3_23 : (Jvm.Cond.methodLink "MazeBoardModel" (1 : Nat) ({ cls := "java/lang/Object", name := "<init>", desc := "()V" } : Jvm.MethodName)) ∈ BG := BG_of (mt_3 (List.mem_of_getElem? (i := 23) rfl)) rfl
theorem mw_3_24 : (Jvm.Cond.methodLink "MazeBoardModel" (61 : Nat) ({ cls := "MazeBoardModel", name := "draw", desc := "()V" } : Jvm.MethodName)) ∈ BG := BG_of (mt_3 (List.mem_of_getElem? (i := 24) rfl)) rfl
theorem mw_3_26 : (Jvm.Cond.instanceMethod ({ cls := "MazeBoardModel", name := "draw", desc := "()V" } : Jvm.MethodName)) ∈ BG := BG_of (mt_3 (List.mem_of_getElem? (i := 26) rfl)) rfl
theorem mw_3_27 : (Jvm.Cond.code ({ cls := "MazeBoardModel", name := "draw", desc := "()V" } : Jvm.MethodName) prog_9_method_3_code (2 : Nat) (Option.none : Option Jvm.ClassFile.FieldType)) ∈ BG := BG_of (mt_3 (List.mem_of_getElem? (i := 27) rfl)) rfl
theorem mw_3_28 : (Jvm.Cond.methodLink "MazeBoardModel" (70 : Nat) ({ cls := "MazeBoardModel", name := "both", desc := "(IIII)V" } : Jvm.MethodName)) ∈ BG := BG_of (mt_3 (List.mem_of_getElem? (i := 28) rfl)) rfl
theorem mw_3_30 : (Jvm.Cond.instanceMethod ({ cls := "MazeBoardModel", name := "both", desc := "(IIII)V" } : Jvm.MethodName)) ∈ BG := BG_of (mt_3 (List.mem_of_getElem? (i := 30) rfl)) rfl
theorem mw_3_31 : (Jvm.Cond.code ({ cls := "MazeBoardModel", name := "both", desc := "(IIII)V" } : Jvm.MethodName) prog_9_method_2_code (6 : Nat) (Option.none : Option Jvm.ClassFile.FieldType)) ∈ BG := BG_of (mt_3 (List.mem_of_getElem? (i := 31) rfl)) rfl
theorem mw_3_32 : (Jvm.Cond.methodLink "MazeBoardModel" (64 : Nat) ({ cls := "MazeBoardModel", name := "fill", desc := "()V" } : Jvm.MethodName)) ∈ BG := BG_of (mt_3 (List.mem_of_getElem? (i := 32) rfl)) rfl
theorem mw_3_34 : (Jvm.Cond.instanceMethod ({ cls := "MazeBoardModel", name := "fill", desc := "()V" } : Jvm.MethodName)) ∈ BG := BG_of (mt_3 (List.mem_of_getElem? (i := 34) rfl)) rfl
theorem mw_3_35 : (Jvm.Cond.code ({ cls := "MazeBoardModel", name := "fill", desc := "()V" } : Jvm.MethodName) prog_9_method_4_code (2 : Nat) (Option.none : Option Jvm.ClassFile.FieldType)) ∈ BG := BG_of (mt_3 (List.mem_of_getElem? (i := 35) rfl)) rfl
theorem mw_3_36 : (Jvm.Cond.methodLink "MazeBoardModel" (67 : Nat) ({ cls := "MazeBoardModel", name := "place", desc := "()V" } : Jvm.MethodName)) ∈ BG := BG_of (mt_3 (List.mem_of_getElem? (i := 36) rfl)) rfl
theorem mw_3_38 : (Jvm.Cond.instanceMethod ({ cls := "MazeBoardModel", name := "place", desc := "()V" } : Jvm.MethodName)) ∈ BG := BG_of (mt_3 (List.mem_of_getElem? (i := 38) rfl)) rfl
theorem mw_3_39 : (Jvm.Cond.code ({ cls := "MazeBoardModel", name := "place", desc := "()V" } : Jvm.MethodName) prog_9_method_6_code (1 : Nat) (Option.none : Option Jvm.ClassFile.FieldType)) ∈ BG := BG_of (mt_3 (List.mem_of_getElem? (i := 39) rfl)) rfl
theorem mw_3_40 : (Jvm.Cond.methodLink "MazeBoardModel" (74 : Nat) ({ cls := "MazeBoardModel", name := "put", desc := "(IIIII)V" } : Jvm.MethodName)) ∈ BG := BG_of (mt_3 (List.mem_of_getElem? (i := 40) rfl)) rfl
theorem mw_3_42 : (Jvm.Cond.instanceMethod ({ cls := "MazeBoardModel", name := "put", desc := "(IIIII)V" } : Jvm.MethodName)) ∈ BG := BG_of (mt_3 (List.mem_of_getElem? (i := 42) rfl)) rfl
theorem mw_3_43 : (Jvm.Cond.code ({ cls := "MazeBoardModel", name := "put", desc := "(IIIII)V" } : Jvm.MethodName) prog_9_method_5_code (6 : Nat) (Option.none : Option Jvm.ClassFile.FieldType)) ∈ BG := BG_of (mt_3 (List.mem_of_getElem? (i := 43) rfl)) rfl
theorem mw_3_44 : (Jvm.Cond.fieldLink "MazeBoardModel" (7 : Nat) "MazeBoardModel" "plan" "[I") ∈ BG := BG_of (mt_3 (List.mem_of_getElem? (i := 44) rfl)) rfl
theorem mw_3_45 : (Jvm.Cond.fieldLink "MazeBoardModel" (13 : Nat) "MazeBoardModel" "cells" "[I") ∈ BG := BG_of (mt_3 (List.mem_of_getElem? (i := 45) rfl)) rfl
theorem mw_3_46 : (Jvm.Cond.fieldLink "MazeBoardModel" (217 : Nat) "MazeBoardModel" "coins" "I") ∈ BG := BG_of (mt_3 (List.mem_of_getElem? (i := 46) rfl)) rfl
theorem mw_3_47 : (Jvm.Cond.fieldLink "MazeBoardModel" (177 : Nat) "MazeBoardModel" "game" "Z") ∈ BG := BG_of (mt_3 (List.mem_of_getElem? (i := 47) rfl)) rfl
theorem mw_3_48 : (Jvm.Cond.fieldLink "MazeBoardModel" (101 : Nat) "MazeBoardModel" "score" "I") ∈ BG := BG_of (mt_3 (List.mem_of_getElem? (i := 48) rfl)) rfl
theorem mw_3_49 : (Jvm.Cond.fieldLink "MazeBoardModel" (111 : Nat) "MazeBoardModel" "best" "I") ∈ BG := BG_of (mt_3 (List.mem_of_getElem? (i := 49) rfl)) rfl
theorem mw_3_50 : (Jvm.Cond.fieldLink "MazeBoardModel" (104 : Nat) "MazeBoardModel" "bonus" "Z") ∈ BG := BG_of (mt_3 (List.mem_of_getElem? (i := 50) rfl)) rfl
theorem mw_3_51 : (Jvm.Cond.fieldLink "MazeBoardModel" (108 : Nat) "MazeBoardModel" "lives" "I") ∈ BG := BG_of (mt_3 (List.mem_of_getElem? (i := 51) rfl)) rfl
theorem mw_3_52 : (Jvm.Cond.fieldLink "MazeBoardModel" (118 : Nat) "MazeBoardModel" "level" "I") ∈ BG := BG_of (mt_3 (List.mem_of_getElem? (i := 52) rfl)) rfl
theorem mw_3_53 : (Jvm.Cond.fieldLink "MazeBoardModel" (81 : Nat) "MazeBoardModel" "fright" "I") ∈ BG := BG_of (mt_3 (List.mem_of_getElem? (i := 53) rfl)) rfl
theorem mw_3_54 : (Jvm.Cond.fieldLink "MazeBoardModel" (78 : Nat) "MazeBoardModel" "time" "I") ∈ BG := BG_of (mt_3 (List.mem_of_getElem? (i := 54) rfl)) rfl
theorem mw_3_55 : (Jvm.Cond.fieldLink "MazeBoardModel" (139 : Nat) "MazeBoardModel" "chain" "I") ∈ BG := BG_of (mt_3 (List.mem_of_getElem? (i := 55) rfl)) rfl
theorem mw_3_56 : (Jvm.Cond.fieldLink "MazeBoardModel" (211 : Nat) "MazeBoardModel" "watch" "I") ∈ BG := BG_of (mt_3 (List.mem_of_getElem? (i := 56) rfl)) rfl
theorem mw_3_57 : (Jvm.Cond.fieldLink "MazeBoardModel" (208 : Nat) "MazeBoardModel" "count" "I") ∈ BG := BG_of (mt_3 (List.mem_of_getElem? (i := 57) rfl)) rfl
theorem mw_3_58 : (Jvm.Cond.fieldLink "MazeBoardModel" (16 : Nat) "MazeBoardModel" "draws" "I") ∈ BG := BG_of (mt_3 (List.mem_of_getElem? (i := 58) rfl)) rfl
theorem mw_3_59 : (Jvm.Cond.fieldLink "MazeBoardModel" (20 : Nat) "MazeBoardModel" "stick" "I") ∈ BG := BG_of (mt_3 (List.mem_of_getElem? (i := 59) rfl)) rfl
theorem mw_3_60 : (Jvm.Cond.fieldLink "MazeBoardModel" (23 : Nat) "MazeBoardModel" "column" "[I") ∈ BG := BG_of (mt_3 (List.mem_of_getElem? (i := 60) rfl)) rfl
theorem mw_3_61 : (Jvm.Cond.fieldLink "MazeBoardModel" (26 : Nat) "MazeBoardModel" "row" "[I") ∈ BG := BG_of (mt_3 (List.mem_of_getElem? (i := 61) rfl)) rfl
theorem mw_3_62 : (Jvm.Cond.fieldLink "MazeBoardModel" (29 : Nat) "MazeBoardModel" "direction" "[I") ∈ BG := BG_of (mt_3 (List.mem_of_getElem? (i := 62) rfl)) rfl
theorem mw_3_63 : (Jvm.Cond.fieldLink "MazeBoardModel" (32 : Nat) "MazeBoardModel" "progress" "[F") ∈ BG := BG_of (mt_3 (List.mem_of_getElem? (i := 63) rfl)) rfl
theorem mw_3_64 : (Jvm.Cond.fieldLink "MazeBoardModel" (36 : Nat) "MazeBoardModel" "afraid" "[Z") ∈ BG := BG_of (mt_3 (List.mem_of_getElem? (i := 64) rfl)) rfl
theorem mw_3_65 : (Jvm.Cond.fieldLink "MazeBoardModel" (40 : Nat) "MazeBoardModel" "resting" "[I") ∈ BG := BG_of (mt_3 (List.mem_of_getElem? (i := 65) rfl)) rfl
theorem mw_3_66 : (Jvm.Cond.fieldLink "MazeBoardModel" (43 : Nat) "MazeBoardModel" "leaving" "[Z") ∈ BG := BG_of (mt_3 (List.mem_of_getElem? (i := 66) rfl)) rfl
theorem mw_3_67 : (Jvm.Cond.fieldLink "MazeBoardModel" (46 : Nat) "MazeBoardModel" "columnThen" "[I") ∈ BG := BG_of (mt_3 (List.mem_of_getElem? (i := 67) rfl)) rfl
theorem mw_3_68 : (Jvm.Cond.fieldLink "MazeBoardModel" (49 : Nat) "MazeBoardModel" "rowThen" "[I") ∈ BG := BG_of (mt_3 (List.mem_of_getElem? (i := 68) rfl)) rfl
theorem mw_3_69 : (Jvm.Cond.fieldLink "MazeBoardModel" (52 : Nat) "MazeBoardModel" "accumulator" "[I") ∈ BG := BG_of (mt_3 (List.mem_of_getElem? (i := 69) rfl)) rfl
theorem mw_3_70 : (Jvm.Cond.fieldLink "MazeBoardModel" (55 : Nat) "MazeBoardModel" "pitch" "[I") ∈ BG := BG_of (mt_3 (List.mem_of_getElem? (i := 70) rfl)) rfl
theorem mw_3_71 : (Jvm.Cond.fieldLink "MazeBoardModel" (58 : Nat) "MazeBoardModel" "volume" "[F") ∈ BG := BG_of (mt_3 (List.mem_of_getElem? (i := 71) rfl)) rfl
theorem mw_3_72 : (Jvm.Cond.fieldLink "MazeBoardModel" (127 : Nat) "MazeBoardModel" "ate" "Z") ∈ BG := BG_of (mt_3 (List.mem_of_getElem? (i := 72) rfl)) rfl
theorem mw_3_73 : (Jvm.Cond.fieldLink "MazeBoardModel" (136 : Nat) "MazeBoardModel" "feast" "Z") ∈ BG := BG_of (mt_3 (List.mem_of_getElem? (i := 73) rfl)) rfl
theorem mw_3_74 : (Jvm.Cond.fieldLink "MazeBoardModel" (170 : Nat) "MazeBoardModel" "died" "Z") ∈ BG := BG_of (mt_3 (List.mem_of_getElem? (i := 74) rfl)) rfl
theorem mw_3_75 : (Jvm.Cond.laysFinal "MazeBoardModel" "MazeBoardModel" "plan" "[I") ∈ BG := BG_of (mt_3 (List.mem_of_getElem? (i := 75) rfl)) rfl
theorem mw_3_77 : (Jvm.Cond.laysFinal "MazeBoardModel" "MazeBoardModel" "cells" "[I") ∈ BG := BG_of (mt_3 (List.mem_of_getElem? (i := 77) rfl)) rfl
theorem mw_3_79 : (Jvm.Cond.lays "MazeBoardModel" "MazeBoardModel" "coins" "I") ∈ BG := BG_of (mt_3 (List.mem_of_getElem? (i := 79) rfl)) rfl
theorem mw_3_81 : (Jvm.Cond.lays "MazeBoardModel" "MazeBoardModel" "game" "Z") ∈ BG := BG_of (mt_3 (List.mem_of_getElem? (i := 81) rfl)) rfl
theorem mw_3_83 : (Jvm.Cond.lays "MazeBoardModel" "MazeBoardModel" "score" "I") ∈ BG := BG_of (mt_3 (List.mem_of_getElem? (i := 83) rfl)) rfl
theorem mw_3_85 : (Jvm.Cond.lays "MazeBoardModel" "MazeBoardModel" "best" "I") ∈ BG := BG_of (mt_3 (List.mem_of_getElem? (i := 85) rfl)) rfl
theorem mw_3_87 : (Jvm.Cond.lays "MazeBoardModel" "MazeBoardModel" "bonus" "Z") ∈ BG := BG_of (mt_3 (List.mem_of_getElem? (i := 87) rfl)) rfl
theorem mw_3_89 : (Jvm.Cond.lays "MazeBoardModel" "MazeBoardModel" "lives" "I") ∈ BG := BG_of (mt_3 (List.mem_of_getElem? (i := 89) rfl)) rfl
theorem mw_3_91 : (Jvm.Cond.lays "MazeBoardModel" "MazeBoardModel" "level" "I") ∈ BG := BG_of (mt_3 (List.mem_of_getElem? (i := 91) rfl)) rfl
theorem mw_3_93 : (Jvm.Cond.lays "MazeBoardModel" "MazeBoardModel" "fright" "I") ∈ BG := BG_of (mt_3 (List.mem_of_getElem? (i := 93) rfl)) rfl
theorem mw_3_95 : (Jvm.Cond.lays "MazeBoardModel" "MazeBoardModel" "time" "I") ∈ BG := BG_of (mt_3 (List.mem_of_getElem? (i := 95) rfl)) rfl
theorem mw_3_97 : (Jvm.Cond.lays "MazeBoardModel" "MazeBoardModel" "chain" "I") ∈ BG := BG_of (mt_3 (List.mem_of_getElem? (i := 97) rfl)) rfl
theorem mw_3_99 : (Jvm.Cond.lays "MazeBoardModel" "MazeBoardModel" "watch" "I") ∈ BG := BG_of (mt_3 (List.mem_of_getElem? (i := 99) rfl)) rfl
theorem mw_3_101 : (Jvm.Cond.lays "MazeBoardModel" "MazeBoardModel" "count" "I") ∈ BG := BG_of (mt_3 (List.mem_of_getElem? (i := 101) rfl)) rfl
theorem mw_3_103 : (Jvm.Cond.lays "MazeBoardModel" "MazeBoardModel" "draws" "I") ∈ BG := BG_of (mt_3 (List.mem_of_getElem? (i := 103) rfl)) rfl
theorem mw_3_105 : (Jvm.Cond.lays "MazeBoardModel" "MazeBoardModel" "stick" "I") ∈ BG := BG_of (mt_3 (List.mem_of_getElem? (i := 105) rfl)) rfl
theorem mw_3_107 : (Jvm.Cond.laysFinal "MazeBoardModel" "MazeBoardModel" "column" "[I") ∈ BG := BG_of (mt_3 (List.mem_of_getElem? (i := 107) rfl)) rfl
theorem mw_3_109 : (Jvm.Cond.laysFinal "MazeBoardModel" "MazeBoardModel" "row" "[I") ∈ BG := BG_of (mt_3 (List.mem_of_getElem? (i := 109) rfl)) rfl
theorem mw_3_111 : (Jvm.Cond.laysFinal "MazeBoardModel" "MazeBoardModel" "direction" "[I") ∈ BG := BG_of (mt_3 (List.mem_of_getElem? (i := 111) rfl)) rfl
theorem mw_3_113 : (Jvm.Cond.laysFinal "MazeBoardModel" "MazeBoardModel" "progress" "[F") ∈ BG := BG_of (mt_3 (List.mem_of_getElem? (i := 113) rfl)) rfl
theorem mw_3_115 : (Jvm.Cond.laysFinal "MazeBoardModel" "MazeBoardModel" "afraid" "[Z") ∈ BG := BG_of (mt_3 (List.mem_of_getElem? (i := 115) rfl)) rfl
theorem mw_3_117 : (Jvm.Cond.laysFinal "MazeBoardModel" "MazeBoardModel" "resting" "[I") ∈ BG := BG_of (mt_3 (List.mem_of_getElem? (i := 117) rfl)) rfl
theorem mw_3_119 : (Jvm.Cond.laysFinal "MazeBoardModel" "MazeBoardModel" "leaving" "[Z") ∈ BG := BG_of (mt_3 (List.mem_of_getElem? (i := 119) rfl)) rfl
theorem mw_3_121 : (Jvm.Cond.laysFinal "MazeBoardModel" "MazeBoardModel" "columnThen" "[I") ∈ BG := BG_of (mt_3 (List.mem_of_getElem? (i := 121) rfl)) rfl
theorem mw_3_123 : (Jvm.Cond.laysFinal "MazeBoardModel" "MazeBoardModel" "rowThen" "[I") ∈ BG := BG_of (mt_3 (List.mem_of_getElem? (i := 123) rfl)) rfl
theorem mw_3_125 : (Jvm.Cond.laysFinal "MazeBoardModel" "MazeBoardModel" "accumulator" "[I") ∈ BG := BG_of (mt_3 (List.mem_of_getElem? (i := 125) rfl)) rfl
theorem mw_3_127 : (Jvm.Cond.laysFinal "MazeBoardModel" "MazeBoardModel" "pitch" "[I") ∈ BG := BG_of (mt_3 (List.mem_of_getElem? (i := 127) rfl)) rfl
theorem mw_3_129 : (Jvm.Cond.laysFinal "MazeBoardModel" "MazeBoardModel" "volume" "[F") ∈ BG := BG_of (mt_3 (List.mem_of_getElem? (i := 129) rfl)) rfl
theorem mw_3_131 : (Jvm.Cond.lays "MazeBoardModel" "MazeBoardModel" "ate" "Z") ∈ BG := BG_of (mt_3 (List.mem_of_getElem? (i := 131) rfl)) rfl
theorem mw_3_133 : (Jvm.Cond.lays "MazeBoardModel" "MazeBoardModel" "feast" "Z") ∈ BG := BG_of (mt_3 (List.mem_of_getElem? (i := 133) rfl)) rfl
theorem mw_3_135 : (Jvm.Cond.lays "MazeBoardModel" "MazeBoardModel" "died" "Z") ∈ BG := BG_of (mt_3 (List.mem_of_getElem? (i := 135) rfl)) rfl
theorem mw_3_138 : (Jvm.Cond.arrayClass Jvm.ClassFile.FieldType.int) ∈ BG := BG_of (mt_3 (List.mem_of_getElem? (i := 138) rfl)) rfl
theorem mw_3_139 : (Jvm.Cond.arrayClass Jvm.ClassFile.FieldType.float) ∈ BG := BG_of (mt_3 (List.mem_of_getElem? (i := 139) rfl)) rfl
theorem mw_3_140 : (Jvm.Cond.arrayClass Jvm.ClassFile.FieldType.boolean) ∈ BG := BG_of (mt_3 (List.mem_of_getElem? (i := 140) rfl)) rfl
theorem mw_3_141 : (Jvm.Cond.methodLink "MazeBoardLaw" (17 : Nat) ({ cls := "MazeBoardModel", name := "coin", desc := "()Z" } : Jvm.MethodName)) ∈ BG := BG_of (mt_3 (List.mem_of_getElem? (i := 141) rfl)) rfl
theorem mw_3_142 : (Jvm.Cond.instanceMethod ({ cls := "MazeBoardModel", name := "coin", desc := "()Z" } : Jvm.MethodName)) ∈ BG := BG_of (mt_3 (List.mem_of_getElem? (i := 142) rfl)) rfl
theorem mw_3_143 : (Jvm.Cond.selects "MazeBoardModel" ({ cls := "MazeBoardModel", name := "coin", desc := "()Z" } : Jvm.MethodName) ({ cls := "MazeBoardModel", name := "coin", desc := "()Z" } : Jvm.MethodName)) ∈ BG := BG_of (mt_3 (List.mem_of_getElem? (i := 143) rfl)) rfl
theorem mw_3_144 : (Jvm.Cond.code ({ cls := "MazeBoardModel", name := "coin", desc := "()Z" } : Jvm.MethodName) prog_9_method_34_code (1 : Nat) (Option.some Jvm.ClassFile.FieldType.boolean)) ∈ BG := BG_of (mt_3 (List.mem_of_getElem? (i := 144) rfl)) rfl
theorem mw_3_145 : (Jvm.Cond.methodLink "MazeBoardLaw" (21 : Nat) ({ cls := "MazeBoardModel", name := "start", desc := "()Z" } : Jvm.MethodName)) ∈ BG := BG_of (mt_3 (List.mem_of_getElem? (i := 145) rfl)) rfl
theorem mw_3_146 : (Jvm.Cond.instanceMethod ({ cls := "MazeBoardModel", name := "start", desc := "()Z" } : Jvm.MethodName)) ∈ BG := BG_of (mt_3 (List.mem_of_getElem? (i := 146) rfl)) rfl
theorem mw_3_147 : (Jvm.Cond.selects "MazeBoardModel" ({ cls := "MazeBoardModel", name := "start", desc := "()Z" } : Jvm.MethodName) ({ cls := "MazeBoardModel", name := "start", desc := "()Z" } : Jvm.MethodName)) ∈ BG := BG_of (mt_3 (List.mem_of_getElem? (i := 147) rfl)) rfl
theorem mw_3_148 : (Jvm.Cond.code ({ cls := "MazeBoardModel", name := "start", desc := "()Z" } : Jvm.MethodName) prog_9_method_35_code (1 : Nat) (Option.some Jvm.ClassFile.FieldType.boolean)) ∈ BG := BG_of (mt_3 (List.mem_of_getElem? (i := 148) rfl)) rfl
theorem mw_3_149 : (Jvm.Cond.methodLink "MazeBoardLaw" (26 : Nat) ({ cls := "MazeBoardModel", name := "stick", desc := "(I)Z" } : Jvm.MethodName)) ∈ BG := BG_of (mt_3 (List.mem_of_getElem? (i := 149) rfl)) rfl
theorem mw_3_150 : (Jvm.Cond.instanceMethod ({ cls := "MazeBoardModel", name := "stick", desc := "(I)Z" } : Jvm.MethodName)) ∈ BG := BG_of (mt_3 (List.mem_of_getElem? (i := 150) rfl)) rfl
theorem mw_3_151 : (Jvm.Cond.selects "MazeBoardModel" ({ cls := "MazeBoardModel", name := "stick", desc := "(I)Z" } : Jvm.MethodName) ({ cls := "MazeBoardModel", name := "stick", desc := "(I)Z" } : Jvm.MethodName)) ∈ BG := BG_of (mt_3 (List.mem_of_getElem? (i := 151) rfl)) rfl
theorem mw_3_152 : (Jvm.Cond.code ({ cls := "MazeBoardModel", name := "stick", desc := "(I)Z" } : Jvm.MethodName) prog_9_method_36_code (2 : Nat) (Option.some Jvm.ClassFile.FieldType.boolean)) ∈ BG := BG_of (mt_3 (List.mem_of_getElem? (i := 152) rfl)) rfl
theorem mw_3_153 : (Jvm.Cond.methodLink "MazeBoardLaw" (30 : Nat) ({ cls := "MazeBoardModel", name := "kick", desc := "()V" } : Jvm.MethodName)) ∈ BG := BG_of (mt_3 (List.mem_of_getElem? (i := 153) rfl)) rfl
theorem mw_3_154 : (Jvm.Cond.instanceMethod ({ cls := "MazeBoardModel", name := "kick", desc := "()V" } : Jvm.MethodName)) ∈ BG := BG_of (mt_3 (List.mem_of_getElem? (i := 154) rfl)) rfl
theorem mw_3_155 : (Jvm.Cond.selects "MazeBoardModel" ({ cls := "MazeBoardModel", name := "kick", desc := "()V" } : Jvm.MethodName) ({ cls := "MazeBoardModel", name := "kick", desc := "()V" } : Jvm.MethodName)) ∈ BG := BG_of (mt_3 (List.mem_of_getElem? (i := 155) rfl)) rfl
theorem mw_3_156 : (Jvm.Cond.code ({ cls := "MazeBoardModel", name := "kick", desc := "()V" } : Jvm.MethodName) prog_9_method_37_code (1 : Nat) (Option.none : Option Jvm.ClassFile.FieldType)) ∈ BG := BG_of (mt_3 (List.mem_of_getElem? (i := 156) rfl)) rfl
theorem mw_3_157 : (Jvm.Cond.methodLink "MazeBoardLaw" (35 : Nat) ({ cls := "MazeBoardModel", name := "frames", desc := "(I)I" } : Jvm.MethodName)) ∈ BG := BG_of (mt_3 (List.mem_of_getElem? (i := 157) rfl)) rfl
theorem mw_3_158 : (Jvm.Cond.instanceMethod ({ cls := "MazeBoardModel", name := "frames", desc := "(I)I" } : Jvm.MethodName)) ∈ BG := BG_of (mt_3 (List.mem_of_getElem? (i := 158) rfl)) rfl
theorem mw_3_159 : (Jvm.Cond.selects "MazeBoardModel" ({ cls := "MazeBoardModel", name := "frames", desc := "(I)I" } : Jvm.MethodName) ({ cls := "MazeBoardModel", name := "frames", desc := "(I)I" } : Jvm.MethodName)) ∈ BG := BG_of (mt_3 (List.mem_of_getElem? (i := 159) rfl)) rfl
theorem mw_3_160 : (Jvm.Cond.code ({ cls := "MazeBoardModel", name := "frames", desc := "(I)I" } : Jvm.MethodName) prog_9_method_38_code (3 : Nat) (Option.some Jvm.ClassFile.FieldType.int)) ∈ BG := BG_of (mt_3 (List.mem_of_getElem? (i := 160) rfl)) rfl
theorem mw_3_161 : (Jvm.Cond.methodLink "MazeBoardModel" (220 : Nat) ({ cls := "MazeBoardModel", name := "frame", desc := "()V" } : Jvm.MethodName)) ∈ BG := BG_of (mt_3 (List.mem_of_getElem? (i := 161) rfl)) rfl
theorem mw_3_163 : (Jvm.Cond.instanceMethod ({ cls := "MazeBoardModel", name := "frame", desc := "()V" } : Jvm.MethodName)) ∈ BG := BG_of (mt_3 (List.mem_of_getElem? (i := 163) rfl)) rfl
theorem mw_3_164 : (Jvm.Cond.code ({ cls := "MazeBoardModel", name := "frame", desc := "()V" } : Jvm.MethodName) prog_9_method_32_code (1 : Nat) (Option.none : Option Jvm.ClassFile.FieldType)) ∈ BG := BG_of (mt_3 (List.mem_of_getElem? (i := 164) rfl)) rfl
theorem mw_3_165 : (Jvm.Cond.methodLink "MazeBoardModel" (202 : Nat) ({ cls := "MazeBoardModel", name := "play", desc := "()V" } : Jvm.MethodName)) ∈ BG := BG_of (mt_3 (List.mem_of_getElem? (i := 165) rfl)) rfl
theorem mw_3_167 : (Jvm.Cond.instanceMethod ({ cls := "MazeBoardModel", name := "play", desc := "()V" } : Jvm.MethodName)) ∈ BG := BG_of (mt_3 (List.mem_of_getElem? (i := 167) rfl)) rfl
theorem mw_3_168 : (Jvm.Cond.code ({ cls := "MazeBoardModel", name := "play", desc := "()V" } : Jvm.MethodName) prog_9_method_29_code (2 : Nat) (Option.none : Option Jvm.ClassFile.FieldType)) ∈ BG := BG_of (mt_3 (List.mem_of_getElem? (i := 168) rfl)) rfl
theorem mw_3_169 : (Jvm.Cond.methodLink "MazeBoardModel" (180 : Nat) ({ cls := "MazeBoardModel", name := "calm", desc := "()V" } : Jvm.MethodName)) ∈ BG := BG_of (mt_3 (List.mem_of_getElem? (i := 169) rfl)) rfl
theorem mw_3_171 : (Jvm.Cond.instanceMethod ({ cls := "MazeBoardModel", name := "calm", desc := "()V" } : Jvm.MethodName)) ∈ BG := BG_of (mt_3 (List.mem_of_getElem? (i := 171) rfl)) rfl
theorem mw_3_172 : (Jvm.Cond.code ({ cls := "MazeBoardModel", name := "calm", desc := "()V" } : Jvm.MethodName) prog_9_method_16_code (2 : Nat) (Option.none : Option Jvm.ClassFile.FieldType)) ∈ BG := BG_of (mt_3 (List.mem_of_getElem? (i := 172) rfl)) rfl
theorem mw_3_173 : (Jvm.Cond.methodLink "MazeBoardModel" (183 : Nat) ({ cls := "MazeBoardModel", name := "player", desc := "()V" } : Jvm.MethodName)) ∈ BG := BG_of (mt_3 (List.mem_of_getElem? (i := 173) rfl)) rfl
theorem mw_3_175 : (Jvm.Cond.instanceMethod ({ cls := "MazeBoardModel", name := "player", desc := "()V" } : Jvm.MethodName)) ∈ BG := BG_of (mt_3 (List.mem_of_getElem? (i := 175) rfl)) rfl
theorem mw_3_176 : (Jvm.Cond.code ({ cls := "MazeBoardModel", name := "player", desc := "()V" } : Jvm.MethodName) prog_9_method_17_code (4 : Nat) (Option.none : Option Jvm.ClassFile.FieldType)) ∈ BG := BG_of (mt_3 (List.mem_of_getElem? (i := 176) rfl)) rfl
theorem mw_3_177 : (Jvm.Cond.methodLink "MazeBoardModel" (114 : Nat) ({ cls := "MazeBoardModel", name := "open", desc := "(II)Z" } : Jvm.MethodName)) ∈ BG := BG_of (mt_3 (List.mem_of_getElem? (i := 177) rfl)) rfl
theorem mw_3_179 : (Jvm.Cond.instanceMethod ({ cls := "MazeBoardModel", name := "open", desc := "(II)Z" } : Jvm.MethodName)) ∈ BG := BG_of (mt_3 (List.mem_of_getElem? (i := 179) rfl)) rfl
theorem mw_3_180 : (Jvm.Cond.code ({ cls := "MazeBoardModel", name := "open", desc := "(II)Z" } : Jvm.MethodName) prog_9_method_12_code (5 : Nat) (Option.some Jvm.ClassFile.FieldType.boolean)) ∈ BG := BG_of (mt_3 (List.mem_of_getElem? (i := 180) rfl)) rfl
theorem mw_3_181 : (Jvm.Cond.methodLink "MazeBoardModel" (94 : Nat) ({ cls := "MazeBoardModel", name := "nextRow", desc := "(II)I" } : Jvm.MethodName)) ∈ BG := BG_of (mt_3 (List.mem_of_getElem? (i := 181) rfl)) rfl
theorem mw_3_183 : (Jvm.Cond.instanceMethod ({ cls := "MazeBoardModel", name := "nextRow", desc := "(II)I" } : Jvm.MethodName)) ∈ BG := BG_of (mt_3 (List.mem_of_getElem? (i := 183) rfl)) rfl
theorem mw_3_184 : (Jvm.Cond.code ({ cls := "MazeBoardModel", name := "nextRow", desc := "(II)I" } : Jvm.MethodName) prog_9_method_11_code (3 : Nat) (Option.some Jvm.ClassFile.FieldType.int)) ∈ BG := BG_of (mt_3 (List.mem_of_getElem? (i := 184) rfl)) rfl
theorem mw_3_185 : (Jvm.Cond.methodLink "MazeBoardModel" (91 : Nat) ({ cls := "MazeBoardModel", name := "down", desc := "(I)I" } : Jvm.MethodName)) ∈ BG := BG_of (mt_3 (List.mem_of_getElem? (i := 185) rfl)) rfl
theorem mw_3_186 : (Jvm.Cond.static ({ cls := "MazeBoardModel", name := "down", desc := "(I)I" } : Jvm.MethodName)) ∈ BG := BG_of (mt_3 (List.mem_of_getElem? (i := 186) rfl)) rfl
theorem mw_3_187 : (Jvm.Cond.code ({ cls := "MazeBoardModel", name := "down", desc := "(I)I" } : Jvm.MethodName) prog_9_method_8_code (1 : Nat) (Option.some Jvm.ClassFile.FieldType.int)) ∈ BG := BG_of (mt_3 (List.mem_of_getElem? (i := 187) rfl)) rfl
theorem mw_3_188 : (Jvm.Cond.methodLink "MazeBoardModel" (98 : Nat) ({ cls := "MazeBoardModel", name := "nextColumn", desc := "(II)I" } : Jvm.MethodName)) ∈ BG := BG_of (mt_3 (List.mem_of_getElem? (i := 188) rfl)) rfl
theorem mw_3_190 : (Jvm.Cond.instanceMethod ({ cls := "MazeBoardModel", name := "nextColumn", desc := "(II)I" } : Jvm.MethodName)) ∈ BG := BG_of (mt_3 (List.mem_of_getElem? (i := 190) rfl)) rfl
theorem mw_3_191 : (Jvm.Cond.code ({ cls := "MazeBoardModel", name := "nextColumn", desc := "(II)I" } : Jvm.MethodName) prog_9_method_10_code (3 : Nat) (Option.some Jvm.ClassFile.FieldType.int)) ∈ BG := BG_of (mt_3 (List.mem_of_getElem? (i := 191) rfl)) rfl
theorem mw_3_192 : (Jvm.Cond.methodLink "MazeBoardModel" (84 : Nat) ({ cls := "MazeBoardModel", name := "across", desc := "(I)I" } : Jvm.MethodName)) ∈ BG := BG_of (mt_3 (List.mem_of_getElem? (i := 192) rfl)) rfl
theorem mw_3_193 : (Jvm.Cond.static ({ cls := "MazeBoardModel", name := "across", desc := "(I)I" } : Jvm.MethodName)) ∈ BG := BG_of (mt_3 (List.mem_of_getElem? (i := 193) rfl)) rfl
theorem mw_3_194 : (Jvm.Cond.code ({ cls := "MazeBoardModel", name := "across", desc := "(I)I" } : Jvm.MethodName) prog_9_method_7_code (1 : Nat) (Option.some Jvm.ClassFile.FieldType.int)) ∈ BG := BG_of (mt_3 (List.mem_of_getElem? (i := 194) rfl)) rfl
theorem mw_3_195 : (Jvm.Cond.methodLink "MazeBoardModel" (88 : Nat) ({ cls := "MazeBoardModel", name := "around", desc := "(I)I" } : Jvm.MethodName)) ∈ BG := BG_of (mt_3 (List.mem_of_getElem? (i := 195) rfl)) rfl
theorem mw_3_196 : (Jvm.Cond.static ({ cls := "MazeBoardModel", name := "around", desc := "(I)I" } : Jvm.MethodName)) ∈ BG := BG_of (mt_3 (List.mem_of_getElem? (i := 196) rfl)) rfl
theorem mw_3_197 : (Jvm.Cond.code ({ cls := "MazeBoardModel", name := "around", desc := "(I)I" } : Jvm.MethodName) prog_9_method_9_code (1 : Nat) (Option.some Jvm.ClassFile.FieldType.int)) ∈ BG := BG_of (mt_3 (List.mem_of_getElem? (i := 197) rfl)) rfl
theorem mw_3_198 : (Jvm.Cond.constantFloat "MazeBoardModel" (121 : Nat) (1045220557 : UInt32)) ∈ BG := BG_of (mt_3 (List.mem_of_getElem? (i := 198) rfl)) rfl
theorem mw_3_199 : (Jvm.Cond.constantFloat "MazeBoardModel" (122 : Nat) (1028443341 : UInt32)) ∈ BG := BG_of (mt_3 (List.mem_of_getElem? (i := 199) rfl)) rfl
theorem mw_3_200 : (Jvm.Cond.methodLink "MazeBoardModel" (123 : Nat) ({ cls := "MazeBoardModel", name := "step", desc := "(I)V" } : Jvm.MethodName)) ∈ BG := BG_of (mt_3 (List.mem_of_getElem? (i := 200) rfl)) rfl
theorem mw_3_202 : (Jvm.Cond.instanceMethod ({ cls := "MazeBoardModel", name := "step", desc := "(I)V" } : Jvm.MethodName)) ∈ BG := BG_of (mt_3 (List.mem_of_getElem? (i := 202) rfl)) rfl
theorem mw_3_203 : (Jvm.Cond.code ({ cls := "MazeBoardModel", name := "step", desc := "(I)V" } : Jvm.MethodName) prog_9_method_13_code (3 : Nat) (Option.none : Option Jvm.ClassFile.FieldType)) ∈ BG := BG_of (mt_3 (List.mem_of_getElem? (i := 203) rfl)) rfl
theorem mw_3_204 : (Jvm.Cond.methodLink "MazeBoardModel" (130 : Nat) ({ cls := "MazeBoardModel", name := "points", desc := "(I)V" } : Jvm.MethodName)) ∈ BG := BG_of (mt_3 (List.mem_of_getElem? (i := 204) rfl)) rfl
theorem mw_3_206 : (Jvm.Cond.instanceMethod ({ cls := "MazeBoardModel", name := "points", desc := "(I)V" } : Jvm.MethodName)) ∈ BG := BG_of (mt_3 (List.mem_of_getElem? (i := 206) rfl)) rfl
theorem mw_3_207 : (Jvm.Cond.code ({ cls := "MazeBoardModel", name := "points", desc := "(I)V" } : Jvm.MethodName) prog_9_method_14_code (2 : Nat) (Option.none : Option Jvm.ClassFile.FieldType)) ∈ BG := BG_of (mt_3 (List.mem_of_getElem? (i := 207) rfl)) rfl
theorem mw_3_208 : (Jvm.Cond.methodLink "MazeBoardModel" (133 : Nat) ({ cls := "MazeBoardModel", name := "scare", desc := "()V" } : Jvm.MethodName)) ∈ BG := BG_of (mt_3 (List.mem_of_getElem? (i := 208) rfl)) rfl
theorem mw_3_210 : (Jvm.Cond.instanceMethod ({ cls := "MazeBoardModel", name := "scare", desc := "()V" } : Jvm.MethodName)) ∈ BG := BG_of (mt_3 (List.mem_of_getElem? (i := 210) rfl)) rfl
theorem mw_3_211 : (Jvm.Cond.code ({ cls := "MazeBoardModel", name := "scare", desc := "()V" } : Jvm.MethodName) prog_9_method_18_code (3 : Nat) (Option.none : Option Jvm.ClassFile.FieldType)) ∈ BG := BG_of (mt_3 (List.mem_of_getElem? (i := 211) rfl)) rfl
theorem mw_3_212 : (Jvm.Cond.methodLink "MazeBoardModel" (186 : Nat) ({ cls := "MazeBoardModel", name := "hunter", desc := "(I)V" } : Jvm.MethodName)) ∈ BG := BG_of (mt_3 (List.mem_of_getElem? (i := 212) rfl)) rfl
theorem mw_3_214 : (Jvm.Cond.instanceMethod ({ cls := "MazeBoardModel", name := "hunter", desc := "(I)V" } : Jvm.MethodName)) ∈ BG := BG_of (mt_3 (List.mem_of_getElem? (i := 214) rfl)) rfl
theorem mw_3_215 : (Jvm.Cond.code ({ cls := "MazeBoardModel", name := "hunter", desc := "(I)V" } : Jvm.MethodName) prog_9_method_19_code (4 : Nat) (Option.none : Option Jvm.ClassFile.FieldType)) ∈ BG := BG_of (mt_3 (List.mem_of_getElem? (i := 215) rfl)) rfl
theorem mw_3_216 : (Jvm.Cond.methodLink "MazeBoardModel" (142 : Nat) ({ cls := "MazeBoardModel", name := "choose", desc := "(I)V" } : Jvm.MethodName)) ∈ BG := BG_of (mt_3 (List.mem_of_getElem? (i := 216) rfl)) rfl
theorem mw_3_218 : (Jvm.Cond.instanceMethod ({ cls := "MazeBoardModel", name := "choose", desc := "(I)V" } : Jvm.MethodName)) ∈ BG := BG_of (mt_3 (List.mem_of_getElem? (i := 218) rfl)) rfl
theorem mw_3_219 : (Jvm.Cond.code ({ cls := "MazeBoardModel", name := "choose", desc := "(I)V" } : Jvm.MethodName) prog_9_method_23_code (12 : Nat) (Option.none : Option Jvm.ClassFile.FieldType)) ∈ BG := BG_of (mt_3 (List.mem_of_getElem? (i := 219) rfl)) rfl
theorem mw_3_220 : (Jvm.Cond.methodLink "MazeBoardModel" (147 : Nat) ({ cls := "MazeBoardModel", name := "drawn", desc := "()I" } : Jvm.MethodName)) ∈ BG := BG_of (mt_3 (List.mem_of_getElem? (i := 220) rfl)) rfl
theorem mw_3_222 : (Jvm.Cond.instanceMethod ({ cls := "MazeBoardModel", name := "drawn", desc := "()I" } : Jvm.MethodName)) ∈ BG := BG_of (mt_3 (List.mem_of_getElem? (i := 222) rfl)) rfl
theorem mw_3_223 : (Jvm.Cond.code ({ cls := "MazeBoardModel", name := "drawn", desc := "()I" } : Jvm.MethodName) prog_9_method_24_code (1 : Nat) (Option.some Jvm.ClassFile.FieldType.int)) ∈ BG := BG_of (mt_3 (List.mem_of_getElem? (i := 223) rfl)) rfl
theorem mw_3_224 : (Jvm.Cond.constant "MazeBoardModel" (159 : Nat) (1103515245 : Int32)) ∈ BG := BG_of (mt_3 (List.mem_of_getElem? (i := 224) rfl)) rfl
theorem mw_3_225 : (Jvm.Cond.methodLink "MazeBoardModel" (151 : Nat) ({ cls := "MazeBoardModel", name := "aim", desc := "(IZ)I" } : Jvm.MethodName)) ∈ BG := BG_of (mt_3 (List.mem_of_getElem? (i := 225) rfl)) rfl
theorem mw_3_227 : (Jvm.Cond.instanceMethod ({ cls := "MazeBoardModel", name := "aim", desc := "(IZ)I" } : Jvm.MethodName)) ∈ BG := BG_of (mt_3 (List.mem_of_getElem? (i := 227) rfl)) rfl
theorem mw_3_228 : (Jvm.Cond.code ({ cls := "MazeBoardModel", name := "aim", desc := "(IZ)I" } : Jvm.MethodName) prog_9_method_25_code (6 : Nat) (Option.some Jvm.ClassFile.FieldType.int)) ∈ BG := BG_of (mt_3 (List.mem_of_getElem? (i := 228) rfl)) rfl
theorem mw_3_229 : (Jvm.Cond.methodLink "MazeBoardModel" (160 : Nat) ({ cls := "MazeBoardModel", name := "cornerColumn", desc := "(I)I" } : Jvm.MethodName)) ∈ BG := BG_of (mt_3 (List.mem_of_getElem? (i := 229) rfl)) rfl
theorem mw_3_230 : (Jvm.Cond.static ({ cls := "MazeBoardModel", name := "cornerColumn", desc := "(I)I" } : Jvm.MethodName)) ∈ BG := BG_of (mt_3 (List.mem_of_getElem? (i := 230) rfl)) rfl
theorem mw_3_231 : (Jvm.Cond.code ({ cls := "MazeBoardModel", name := "cornerColumn", desc := "(I)I" } : Jvm.MethodName) prog_9_method_21_code (1 : Nat) (Option.some Jvm.ClassFile.FieldType.int)) ∈ BG := BG_of (mt_3 (List.mem_of_getElem? (i := 231) rfl)) rfl
theorem mw_3_232 : (Jvm.Cond.methodLink "MazeBoardModel" (163 : Nat) ({ cls := "MazeBoardModel", name := "cornerRow", desc := "(I)I" } : Jvm.MethodName)) ∈ BG := BG_of (mt_3 (List.mem_of_getElem? (i := 232) rfl)) rfl
theorem mw_3_233 : (Jvm.Cond.static ({ cls := "MazeBoardModel", name := "cornerRow", desc := "(I)I" } : Jvm.MethodName)) ∈ BG := BG_of (mt_3 (List.mem_of_getElem? (i := 233) rfl)) rfl
theorem mw_3_234 : (Jvm.Cond.code ({ cls := "MazeBoardModel", name := "cornerRow", desc := "(I)I" } : Jvm.MethodName) prog_9_method_22_code (1 : Nat) (Option.some Jvm.ClassFile.FieldType.int)) ∈ BG := BG_of (mt_3 (List.mem_of_getElem? (i := 234) rfl)) rfl
theorem mw_3_235 : (Jvm.Cond.methodLink "MazeBoardModel" (166 : Nat) ({ cls := "MazeBoardModel", name := "scatters", desc := "()Z" } : Jvm.MethodName)) ∈ BG := BG_of (mt_3 (List.mem_of_getElem? (i := 235) rfl)) rfl
theorem mw_3_237 : (Jvm.Cond.instanceMethod ({ cls := "MazeBoardModel", name := "scatters", desc := "()Z" } : Jvm.MethodName)) ∈ BG := BG_of (mt_3 (List.mem_of_getElem? (i := 237) rfl)) rfl
theorem mw_3_238 : (Jvm.Cond.code ({ cls := "MazeBoardModel", name := "scatters", desc := "()Z" } : Jvm.MethodName) prog_9_method_15_code (1 : Nat) (Option.some Jvm.ClassFile.FieldType.boolean)) ∈ BG := BG_of (mt_3 (List.mem_of_getElem? (i := 238) rfl)) rfl
theorem mw_3_239 : (Jvm.Cond.methodLink "MazeBoardModel" (155 : Nat) ({ cls := "MazeBoardModel", name := "distance", desc := "(IIII)I" } : Jvm.MethodName)) ∈ BG := BG_of (mt_3 (List.mem_of_getElem? (i := 239) rfl)) rfl
theorem mw_4_0 : (Jvm.Cond.static ({ cls := "MazeBoardModel", name := "distance", desc := "(IIII)I" } : Jvm.MethodName)) ∈ BG := BG_of (mt_4 (List.mem_of_getElem? (i := 0) rfl)) rfl
theorem mw_4_1 : (Jvm.Cond.code ({ cls := "MazeBoardModel", name := "distance", desc := "(IIII)I" } : Jvm.MethodName) prog_9_method_20_code (4 : Nat) (Option.some Jvm.ClassFile.FieldType.int)) ∈ BG := BG_of (mt_4 (List.mem_of_getElem? (i := 1) rfl)) rfl
theorem mw_4_2 : (Jvm.Cond.constantFloat "MazeBoardModel" (145 : Nat) (1044549468 : UInt32)) ∈ BG := BG_of (mt_4 (List.mem_of_getElem? (i := 2) rfl)) rfl
theorem mw_4_3 : (Jvm.Cond.constantFloat "MazeBoardModel" (146 : Nat) (1025758986 : UInt32)) ∈ BG := BG_of (mt_4 (List.mem_of_getElem? (i := 3) rfl)) rfl
theorem mw_4_4 : (Jvm.Cond.methodLink "MazeBoardModel" (189 : Nat) ({ cls := "MazeBoardModel", name := "meet", desc := "()V" } : Jvm.MethodName)) ∈ BG := BG_of (mt_4 (List.mem_of_getElem? (i := 4) rfl)) rfl
theorem mw_4_6 : (Jvm.Cond.instanceMethod ({ cls := "MazeBoardModel", name := "meet", desc := "()V" } : Jvm.MethodName)) ∈ BG := BG_of (mt_4 (List.mem_of_getElem? (i := 6) rfl)) rfl
theorem mw_4_7 : (Jvm.Cond.code ({ cls := "MazeBoardModel", name := "meet", desc := "()V" } : Jvm.MethodName) prog_9_method_27_code (2 : Nat) (Option.none : Option Jvm.ClassFile.FieldType)) ∈ BG := BG_of (mt_4 (List.mem_of_getElem? (i := 7) rfl)) rfl
theorem mw_4_8 : (Jvm.Cond.methodLink "MazeBoardModel" (173 : Nat) ({ cls := "MazeBoardModel", name := "met", desc := "(I)Z" } : Jvm.MethodName)) ∈ BG := BG_of (mt_4 (List.mem_of_getElem? (i := 8) rfl)) rfl
theorem mw_4_10 : (Jvm.Cond.instanceMethod ({ cls := "MazeBoardModel", name := "met", desc := "(I)Z" } : Jvm.MethodName)) ∈ BG := BG_of (mt_4 (List.mem_of_getElem? (i := 10) rfl)) rfl
theorem mw_4_11 : (Jvm.Cond.code ({ cls := "MazeBoardModel", name := "met", desc := "(I)Z" } : Jvm.MethodName) prog_9_method_26_code (4 : Nat) (Option.some Jvm.ClassFile.FieldType.boolean)) ∈ BG := BG_of (mt_4 (List.mem_of_getElem? (i := 11) rfl)) rfl
theorem mw_4_12 : (Jvm.Cond.methodLink "MazeBoardModel" (192 : Nat) ({ cls := "MazeBoardModel", name := "left", desc := "()I" } : Jvm.MethodName)) ∈ BG := BG_of (mt_4 (List.mem_of_getElem? (i := 12) rfl)) rfl
theorem mw_4_14 : (Jvm.Cond.instanceMethod ({ cls := "MazeBoardModel", name := "left", desc := "()I" } : Jvm.MethodName)) ∈ BG := BG_of (mt_4 (List.mem_of_getElem? (i := 14) rfl)) rfl
theorem mw_4_15 : (Jvm.Cond.code ({ cls := "MazeBoardModel", name := "left", desc := "()I" } : Jvm.MethodName) prog_9_method_28_code (3 : Nat) (Option.some Jvm.ClassFile.FieldType.int)) ∈ BG := BG_of (mt_4 (List.mem_of_getElem? (i := 15) rfl)) rfl
theorem mw_4_16 : (Jvm.Cond.methodLink "MazeBoardModel" (205 : Nat) ({ cls := "MazeBoardModel", name := "hear", desc := "()V" } : Jvm.MethodName)) ∈ BG := BG_of (mt_4 (List.mem_of_getElem? (i := 16) rfl)) rfl
theorem mw_4_18 : (Jvm.Cond.instanceMethod ({ cls := "MazeBoardModel", name := "hear", desc := "()V" } : Jvm.MethodName)) ∈ BG := BG_of (mt_4 (List.mem_of_getElem? (i := 18) rfl)) rfl
theorem mw_4_19 : (Jvm.Cond.code ({ cls := "MazeBoardModel", name := "hear", desc := "()V" } : Jvm.MethodName) prog_9_method_31_code (2 : Nat) (Option.none : Option Jvm.ClassFile.FieldType)) ∈ BG := BG_of (mt_4 (List.mem_of_getElem? (i := 19) rfl)) rfl
theorem mw_4_20 : (Jvm.Cond.constantFloat "MazeBoardModel" (195 : Nat) (1063675494 : UInt32)) ∈ BG := BG_of (mt_4 (List.mem_of_getElem? (i := 20) rfl)) rfl
theorem mw_4_21 : (Jvm.Cond.methodLink "MazeBoardModel" (196 : Nat) ({ cls := "MazeBoardModel", name := "voice", desc := "(IFI)V" } : Jvm.MethodName)) ∈ BG := BG_of (mt_4 (List.mem_of_getElem? (i := 21) rfl)) rfl
theorem mw_4_23 : (Jvm.Cond.instanceMethod ({ cls := "MazeBoardModel", name := "voice", desc := "(IFI)V" } : Jvm.MethodName)) ∈ BG := BG_of (mt_4 (List.mem_of_getElem? (i := 23) rfl)) rfl
theorem mw_4_24 : (Jvm.Cond.code ({ cls := "MazeBoardModel", name := "voice", desc := "(IFI)V" } : Jvm.MethodName) prog_9_method_30_code (4 : Nat) (Option.none : Option Jvm.ClassFile.FieldType)) ∈ BG := BG_of (mt_4 (List.mem_of_getElem? (i := 24) rfl)) rfl
theorem mw_4_25 : (Jvm.Cond.constantFloat "MazeBoardModel" (200 : Nat) (1056964608 : UInt32)) ∈ BG := BG_of (mt_4 (List.mem_of_getElem? (i := 25) rfl)) rfl
theorem mw_4_26 : (Jvm.Cond.constantFloat "MazeBoardModel" (201 : Nat) (1069547520 : UInt32)) ∈ BG := BG_of (mt_4 (List.mem_of_getElem? (i := 26) rfl)) rfl
theorem mw_4_27 : (Jvm.Cond.methodLink "MazeBoardModel" (214 : Nat) ({ cls := "MazeBoardModel", name := "reset", desc := "()V" } : Jvm.MethodName)) ∈ BG := BG_of (mt_4 (List.mem_of_getElem? (i := 27) rfl)) rfl
theorem mw_4_29 : (Jvm.Cond.instanceMethod ({ cls := "MazeBoardModel", name := "reset", desc := "()V" } : Jvm.MethodName)) ∈ BG := BG_of (mt_4 (List.mem_of_getElem? (i := 29) rfl)) rfl
theorem mw_4_30 : (Jvm.Cond.code ({ cls := "MazeBoardModel", name := "reset", desc := "()V" } : Jvm.MethodName) prog_9_method_33_code (2 : Nat) (Option.none : Option Jvm.ClassFile.FieldType)) ∈ BG := BG_of (mt_4 (List.mem_of_getElem? (i := 30) rfl)) rfl
theorem mw_4_31 : (Jvm.Cond.methodLink "MazeBoardLaw" (39 : Nat) ({ cls := "MazeBoardModel", name := "look", desc := "(I)I" } : Jvm.MethodName)) ∈ BG := BG_of (mt_4 (List.mem_of_getElem? (i := 31) rfl)) rfl
theorem mw_4_32 : (Jvm.Cond.instanceMethod ({ cls := "MazeBoardModel", name := "look", desc := "(I)I" } : Jvm.MethodName)) ∈ BG := BG_of (mt_4 (List.mem_of_getElem? (i := 32) rfl)) rfl
theorem mw_4_33 : (Jvm.Cond.selects "MazeBoardModel" ({ cls := "MazeBoardModel", name := "look", desc := "(I)I" } : Jvm.MethodName) ({ cls := "MazeBoardModel", name := "look", desc := "(I)I" } : Jvm.MethodName)) ∈ BG := BG_of (mt_4 (List.mem_of_getElem? (i := 33) rfl)) rfl
theorem mw_4_34 : (Jvm.Cond.code ({ cls := "MazeBoardModel", name := "look", desc := "(I)I" } : Jvm.MethodName) prog_9_method_39_code (2 : Nat) (Option.some Jvm.ClassFile.FieldType.int)) ∈ BG := BG_of (mt_4 (List.mem_of_getElem? (i := 34) rfl)) rfl
theorem mw_4_35 : (Jvm.Cond.methodLink "MazeBoardLaw" (44 : Nat) ({ cls := "MazeBoardModel", name := "actor", desc := "(II)I" } : Jvm.MethodName)) ∈ BG := BG_of (mt_4 (List.mem_of_getElem? (i := 35) rfl)) rfl
theorem mw_4_36 : (Jvm.Cond.instanceMethod ({ cls := "MazeBoardModel", name := "actor", desc := "(II)I" } : Jvm.MethodName)) ∈ BG := BG_of (mt_4 (List.mem_of_getElem? (i := 36) rfl)) rfl
theorem mw_4_37 : (Jvm.Cond.selects "MazeBoardModel" ({ cls := "MazeBoardModel", name := "actor", desc := "(II)I" } : Jvm.MethodName) ({ cls := "MazeBoardModel", name := "actor", desc := "(II)I" } : Jvm.MethodName)) ∈ BG := BG_of (mt_4 (List.mem_of_getElem? (i := 37) rfl)) rfl
theorem mw_4_38 : (Jvm.Cond.code ({ cls := "MazeBoardModel", name := "actor", desc := "(II)I" } : Jvm.MethodName) prog_9_method_40_code (3 : Nat) (Option.some Jvm.ClassFile.FieldType.int)) ∈ BG := BG_of (mt_4 (List.mem_of_getElem? (i := 38) rfl)) rfl
theorem mw_4_39 : (Jvm.Cond.methodLink "MazeBoardLaw" (49 : Nat) ({ cls := "MazeBoardModel", name := "progress", desc := "(I)F" } : Jvm.MethodName)) ∈ BG := BG_of (mt_4 (List.mem_of_getElem? (i := 39) rfl)) rfl
theorem mw_4_40 : (Jvm.Cond.instanceMethod ({ cls := "MazeBoardModel", name := "progress", desc := "(I)F" } : Jvm.MethodName)) ∈ BG := BG_of (mt_4 (List.mem_of_getElem? (i := 40) rfl)) rfl
theorem mw_4_41 : (Jvm.Cond.selects "MazeBoardModel" ({ cls := "MazeBoardModel", name := "progress", desc := "(I)F" } : Jvm.MethodName) ({ cls := "MazeBoardModel", name := "progress", desc := "(I)F" } : Jvm.MethodName)) ∈ BG := BG_of (mt_4 (List.mem_of_getElem? (i := 41) rfl)) rfl
theorem mw_4_42 : (Jvm.Cond.code ({ cls := "MazeBoardModel", name := "progress", desc := "(I)F" } : Jvm.MethodName) prog_9_method_41_code (2 : Nat) (Option.some Jvm.ClassFile.FieldType.float)) ∈ BG := BG_of (mt_4 (List.mem_of_getElem? (i := 42) rfl)) rfl
theorem mw_4_43 : (Jvm.Cond.methodLink "MazeBoardLaw" (53 : Nat) ({ cls := "MazeBoardModel", name := "cell", desc := "(II)I" } : Jvm.MethodName)) ∈ BG := BG_of (mt_4 (List.mem_of_getElem? (i := 43) rfl)) rfl
theorem mw_4_44 : (Jvm.Cond.instanceMethod ({ cls := "MazeBoardModel", name := "cell", desc := "(II)I" } : Jvm.MethodName)) ∈ BG := BG_of (mt_4 (List.mem_of_getElem? (i := 44) rfl)) rfl
theorem mw_4_45 : (Jvm.Cond.selects "MazeBoardModel" ({ cls := "MazeBoardModel", name := "cell", desc := "(II)I" } : Jvm.MethodName) ({ cls := "MazeBoardModel", name := "cell", desc := "(II)I" } : Jvm.MethodName)) ∈ BG := BG_of (mt_4 (List.mem_of_getElem? (i := 45) rfl)) rfl
theorem mw_4_46 : (Jvm.Cond.code ({ cls := "MazeBoardModel", name := "cell", desc := "(II)I" } : Jvm.MethodName) prog_9_method_42_code (3 : Nat) (Option.some Jvm.ClassFile.FieldType.int)) ∈ BG := BG_of (mt_4 (List.mem_of_getElem? (i := 46) rfl)) rfl
theorem mw_4_47 : (Jvm.Cond.methodLink "MazeBoardLaw" (57 : Nat) ({ cls := "MazeBoardModel", name := "point", desc := "(II)I" } : Jvm.MethodName)) ∈ BG := BG_of (mt_4 (List.mem_of_getElem? (i := 47) rfl)) rfl
theorem mw_4_48 : (Jvm.Cond.instanceMethod ({ cls := "MazeBoardModel", name := "point", desc := "(II)I" } : Jvm.MethodName)) ∈ BG := BG_of (mt_4 (List.mem_of_getElem? (i := 48) rfl)) rfl
theorem mw_4_49 : (Jvm.Cond.selects "MazeBoardModel" ({ cls := "MazeBoardModel", name := "point", desc := "(II)I" } : Jvm.MethodName) ({ cls := "MazeBoardModel", name := "point", desc := "(II)I" } : Jvm.MethodName)) ∈ BG := BG_of (mt_4 (List.mem_of_getElem? (i := 49) rfl)) rfl
theorem mw_4_50 : (Jvm.Cond.code ({ cls := "MazeBoardModel", name := "point", desc := "(II)I" } : Jvm.MethodName) prog_9_method_44_code (6 : Nat) (Option.some Jvm.ClassFile.FieldType.int)) ∈ BG := BG_of (mt_4 (List.mem_of_getElem? (i := 50) rfl)) rfl
theorem mw_4_51 : (Jvm.Cond.methodLink "MazeBoardModel" (224 : Nat) ({ cls := "MazeBoardModel", name := "sprite", desc := "(III)I" } : Jvm.MethodName)) ∈ BG := BG_of (mt_4 (List.mem_of_getElem? (i := 51) rfl)) rfl
theorem mw_4_53 : (Jvm.Cond.instanceMethod ({ cls := "MazeBoardModel", name := "sprite", desc := "(III)I" } : Jvm.MethodName)) ∈ BG := BG_of (mt_4 (List.mem_of_getElem? (i := 53) rfl)) rfl
theorem mw_4_54 : (Jvm.Cond.code ({ cls := "MazeBoardModel", name := "sprite", desc := "(III)I" } : Jvm.MethodName) prog_9_method_43_code (13 : Nat) (Option.some Jvm.ClassFile.FieldType.int)) ∈ BG := BG_of (mt_4 (List.mem_of_getElem? (i := 54) rfl)) rfl
theorem mw_4_55 : (Jvm.Cond.constantFloat "MazeBoardModel" (223 : Nat) (1082130432 : UInt32)) ∈ BG := BG_of (mt_4 (List.mem_of_getElem? (i := 55) rfl)) rfl
theorem mw_4_56 : (Jvm.Cond.methodLink "MazeBoardLaw" (61 : Nat) ({ cls := "MazeBoardModel", name := "volume", desc := "(I)F" } : Jvm.MethodName)) ∈ BG := BG_of (mt_4 (List.mem_of_getElem? (i := 56) rfl)) rfl
theorem mw_4_57 : (Jvm.Cond.instanceMethod ({ cls := "MazeBoardModel", name := "volume", desc := "(I)F" } : Jvm.MethodName)) ∈ BG := BG_of (mt_4 (List.mem_of_getElem? (i := 57) rfl)) rfl
theorem mw_4_58 : (Jvm.Cond.selects "MazeBoardModel" ({ cls := "MazeBoardModel", name := "volume", desc := "(I)F" } : Jvm.MethodName) ({ cls := "MazeBoardModel", name := "volume", desc := "(I)F" } : Jvm.MethodName)) ∈ BG := BG_of (mt_4 (List.mem_of_getElem? (i := 58) rfl)) rfl
theorem mw_4_59 : (Jvm.Cond.code ({ cls := "MazeBoardModel", name := "volume", desc := "(I)F" } : Jvm.MethodName) prog_9_method_45_code (2 : Nat) (Option.some Jvm.ClassFile.FieldType.float)) ∈ BG := BG_of (mt_4 (List.mem_of_getElem? (i := 59) rfl)) rfl
theorem mw_4_60 : (Jvm.Cond.methodLink "MazeBoardLaw" (66 : Nat) ({ cls := "MazeBoardModel", name := "sound", desc := "()F" } : Jvm.MethodName)) ∈ BG := BG_of (mt_4 (List.mem_of_getElem? (i := 60) rfl)) rfl
theorem mw_4_61 : (Jvm.Cond.instanceMethod ({ cls := "MazeBoardModel", name := "sound", desc := "()F" } : Jvm.MethodName)) ∈ BG := BG_of (mt_4 (List.mem_of_getElem? (i := 61) rfl)) rfl
theorem mw_4_62 : (Jvm.Cond.selects "MazeBoardModel" ({ cls := "MazeBoardModel", name := "sound", desc := "()F" } : Jvm.MethodName) ({ cls := "MazeBoardModel", name := "sound", desc := "()F" } : Jvm.MethodName)) ∈ BG := BG_of (mt_4 (List.mem_of_getElem? (i := 62) rfl)) rfl
theorem mw_4_63 : (Jvm.Cond.code ({ cls := "MazeBoardModel", name := "sound", desc := "()F" } : Jvm.MethodName) prog_9_method_46_code (3 : Nat) (Option.some Jvm.ClassFile.FieldType.float)) ∈ BG := BG_of (mt_4 (List.mem_of_getElem? (i := 63) rfl)) rfl
theorem mw_4_64 : (Jvm.Cond.constantFloat "MazeBoardModel" (228 : Nat) (1089470464 : UInt32)) ∈ BG := BG_of (mt_4 (List.mem_of_getElem? (i := 64) rfl)) rfl
theorem mw_0_0 : Cond.selects "MazeBoard$Game" ⟨"MazeBoard$Game", "setUp", "()V"⟩ ⟨"MazeBoard$Game", "setUp", "()V"⟩ ∈ BG := BG_of (mt_0 (List.mem_of_getElem? (i := 0) rfl)) rfl
theorem mw_0_1 : Cond.selects "MazeBoard$Game" ⟨"MazeBoard$Game", "placeActors", "()V"⟩ ⟨"MazeBoard$Game", "placeActors", "()V"⟩ ∈ BG := BG_of (mt_0 (List.mem_of_getElem? (i := 1) rfl)) rfl
theorem mw_0_2 : Cond.selects "MazeBoard$Game" ⟨"MazeBoard$Game", "passTime", "()V"⟩ ⟨"MazeBoard$Game", "passTime", "()V"⟩ ∈ BG := BG_of (mt_0 (List.mem_of_getElem? (i := 2) rfl)) rfl
theorem mw_0_3 : Cond.selects "MazeBoard$Game" ⟨"MazeBoard$Game", "movePlayer", "(I)Z"⟩ ⟨"MazeBoard$Game", "movePlayer", "(I)Z"⟩ ∈ BG := BG_of (mt_0 (List.mem_of_getElem? (i := 3) rfl)) rfl
theorem mw_0_4 : Cond.selects "MazeBoard$Game" ⟨"MazeBoard$Game", "isStickOpen", "(I)Z"⟩ ⟨"MazeBoard$Game", "isStickOpen", "(I)Z"⟩ ∈ BG := BG_of (mt_0 (List.mem_of_getElem? (i := 4) rfl)) rfl
theorem mw_0_5 : Cond.selects "MazeBoard$Game" ⟨"MazeBoard$Game", "eatHere", "()V"⟩ ⟨"MazeBoard$Game", "eatHere", "()V"⟩ ∈ BG := BG_of (mt_0 (List.mem_of_getElem? (i := 5) rfl)) rfl
theorem mw_0_6 : Cond.selects "MazeBoard$Game" ⟨"MazeBoard$Game", "addPoints", "(I)V"⟩ ⟨"MazeBoard$Game", "addPoints", "(I)V"⟩ ∈ BG := BG_of (mt_0 (List.mem_of_getElem? (i := 6) rfl)) rfl
theorem mw_0_7 : Cond.selects "MazeBoard$Game" ⟨"MazeBoard$Game", "frightenHunters", "()V"⟩ ⟨"MazeBoard$Game", "frightenHunters", "()V"⟩ ∈ BG := BG_of (mt_0 (List.mem_of_getElem? (i := 7) rfl)) rfl
theorem mw_0_8 : Cond.selects "MazeBoard$Game" ⟨"MazeBoard$Game", "turnAbout", "(LMazeBoard$Actor;)V"⟩ ⟨"MazeBoard$Game", "turnAbout", "(LMazeBoard$Actor;)V"⟩ ∈ BG := BG_of (mt_0 (List.mem_of_getElem? (i := 8) rfl)) rfl
theorem mw_0_9 : Cond.selects "MazeBoard$Game" ⟨"MazeBoard$Game", "moveHunter", "(I)V"⟩ ⟨"MazeBoard$Game", "moveHunter", "(I)V"⟩ ∈ BG := BG_of (mt_0 (List.mem_of_getElem? (i := 9) rfl)) rfl
theorem mw_0_10 : Cond.selects "MazeBoard$Game" ⟨"MazeBoard$Game", "chooseDirection", "(LMazeBoard$Actor;I)V"⟩ ⟨"MazeBoard$Game", "chooseDirection", "(LMazeBoard$Actor;I)V"⟩ ∈ BG := BG_of (mt_0 (List.mem_of_getElem? (i := 10) rfl)) rfl
theorem mw_0_11 : Cond.selects "MazeBoard$Game" ⟨"MazeBoard$Game", "drawNumber", "()I"⟩ ⟨"MazeBoard$Game", "drawNumber", "()I"⟩ ∈ BG := BG_of (mt_0 (List.mem_of_getElem? (i := 11) rfl)) rfl
theorem mw_0_12 : Cond.selects "MazeBoard$Game" ⟨"MazeBoard$Game", "firstOpenFrom", "(ILMazeBoard$Actor;)I"⟩ ⟨"MazeBoard$Game", "firstOpenFrom", "(ILMazeBoard$Actor;)I"⟩ ∈ BG := BG_of (mt_0 (List.mem_of_getElem? (i := 12) rfl)) rfl
theorem mw_0_13 : Cond.selects "MazeBoard$Game" ⟨"MazeBoard$Game", "setAim", "(LMazeBoard$Actor;I)V"⟩ ⟨"MazeBoard$Game", "setAim", "(LMazeBoard$Actor;I)V"⟩ ∈ BG := BG_of (mt_0 (List.mem_of_getElem? (i := 13) rfl)) rfl
theorem mw_0_14 : Cond.selects "MazeBoard$Game" ⟨"MazeBoard$Game", "isScatter", "()Z"⟩ ⟨"MazeBoard$Game", "isScatter", "()Z"⟩ ∈ BG := BG_of (mt_0 (List.mem_of_getElem? (i := 14) rfl)) rfl
theorem mw_0_15 : Cond.selects "MazeBoard$Game" ⟨"MazeBoard$Game", "isNearPlayer", "(LMazeBoard$Actor;)Z"⟩ ⟨"MazeBoard$Game", "isNearPlayer", "(LMazeBoard$Actor;)Z"⟩ ∈ BG := BG_of (mt_0 (List.mem_of_getElem? (i := 15) rfl)) rfl
theorem mw_0_16 : Cond.selects "MazeBoard$Game" ⟨"MazeBoard$Game", "aimAtPlayer", "(LMazeBoard$Actor;I)V"⟩ ⟨"MazeBoard$Game", "aimAtPlayer", "(LMazeBoard$Actor;I)V"⟩ ∈ BG := BG_of (mt_0 (List.mem_of_getElem? (i := 16) rfl)) rfl
theorem mw_0_17 : Cond.selects "MazeBoard$Game" ⟨"MazeBoard$Game", "nearestToAim", "(LMazeBoard$Actor;)I"⟩ ⟨"MazeBoard$Game", "nearestToAim", "(LMazeBoard$Actor;)I"⟩ ∈ BG := BG_of (mt_0 (List.mem_of_getElem? (i := 17) rfl)) rfl
theorem mw_0_18 : Cond.selects "MazeBoard$Game" ⟨"MazeBoard$Game", "meetHunters", "()V"⟩ ⟨"MazeBoard$Game", "meetHunters", "()V"⟩ ∈ BG := BG_of (mt_0 (List.mem_of_getElem? (i := 18) rfl)) rfl
theorem mw_0_19 : Cond.selects "MazeBoard$Game" ⟨"MazeBoard$Game", "eatHunter", "(LMazeBoard$Actor;)V"⟩ ⟨"MazeBoard$Game", "eatHunter", "(LMazeBoard$Actor;)V"⟩ ∈ BG := BG_of (mt_0 (List.mem_of_getElem? (i := 19) rfl)) rfl
theorem mw_0_20 : Cond.selects "MazeBoard$Game" ⟨"MazeBoard$Game", "loseLife", "()V"⟩ ⟨"MazeBoard$Game", "loseLife", "()V"⟩ ∈ BG := BG_of (mt_0 (List.mem_of_getElem? (i := 20) rfl)) rfl
theorem mw_0_21 : Cond.selects "MazeBoard" ⟨"MazeBoard", "reset", "()V"⟩ ⟨"MazeBoard", "reset", "()V"⟩ ∈ BG := BG_of (mt_0 (List.mem_of_getElem? (i := 21) rfl)) rfl
theorem mw_0_22 : Cond.selects "MazeBoardModel" ⟨"MazeBoardModel", "draw", "()V"⟩ ⟨"MazeBoardModel", "draw", "()V"⟩ ∈ BG := BG_of (mt_0 (List.mem_of_getElem? (i := 22) rfl)) rfl
theorem mw_0_23 : Cond.selects "MazeBoardModel" ⟨"MazeBoardModel", "both", "(IIII)V"⟩ ⟨"MazeBoardModel", "both", "(IIII)V"⟩ ∈ BG := BG_of (mt_0 (List.mem_of_getElem? (i := 23) rfl)) rfl
theorem mw_0_24 : Cond.selects "MazeBoardModel" ⟨"MazeBoardModel", "fill", "()V"⟩ ⟨"MazeBoardModel", "fill", "()V"⟩ ∈ BG := BG_of (mt_0 (List.mem_of_getElem? (i := 24) rfl)) rfl
theorem mw_0_25 : Cond.selects "MazeBoardModel" ⟨"MazeBoardModel", "place", "()V"⟩ ⟨"MazeBoardModel", "place", "()V"⟩ ∈ BG := BG_of (mt_0 (List.mem_of_getElem? (i := 25) rfl)) rfl
theorem mw_0_26 : Cond.selects "MazeBoardModel" ⟨"MazeBoardModel", "put", "(IIIII)V"⟩ ⟨"MazeBoardModel", "put", "(IIIII)V"⟩ ∈ BG := BG_of (mt_0 (List.mem_of_getElem? (i := 26) rfl)) rfl
theorem mw_0_27 : Cond.selects "MazeBoardModel" ⟨"MazeBoardModel", "frame", "()V"⟩ ⟨"MazeBoardModel", "frame", "()V"⟩ ∈ BG := BG_of (mt_0 (List.mem_of_getElem? (i := 27) rfl)) rfl
theorem mw_0_28 : Cond.selects "MazeBoardModel" ⟨"MazeBoardModel", "play", "()V"⟩ ⟨"MazeBoardModel", "play", "()V"⟩ ∈ BG := BG_of (mt_0 (List.mem_of_getElem? (i := 28) rfl)) rfl
theorem mw_0_29 : Cond.selects "MazeBoardModel" ⟨"MazeBoardModel", "calm", "()V"⟩ ⟨"MazeBoardModel", "calm", "()V"⟩ ∈ BG := BG_of (mt_0 (List.mem_of_getElem? (i := 29) rfl)) rfl
theorem mw_0_30 : Cond.selects "MazeBoardModel" ⟨"MazeBoardModel", "player", "()V"⟩ ⟨"MazeBoardModel", "player", "()V"⟩ ∈ BG := BG_of (mt_0 (List.mem_of_getElem? (i := 30) rfl)) rfl
theorem mw_0_31 : Cond.selects "MazeBoardModel" ⟨"MazeBoardModel", "open", "(II)Z"⟩ ⟨"MazeBoardModel", "open", "(II)Z"⟩ ∈ BG := BG_of (mt_0 (List.mem_of_getElem? (i := 31) rfl)) rfl
theorem mw_0_32 : Cond.selects "MazeBoardModel" ⟨"MazeBoardModel", "nextRow", "(II)I"⟩ ⟨"MazeBoardModel", "nextRow", "(II)I"⟩ ∈ BG := BG_of (mt_0 (List.mem_of_getElem? (i := 32) rfl)) rfl
theorem mw_0_33 : Cond.selects "MazeBoardModel" ⟨"MazeBoardModel", "nextColumn", "(II)I"⟩ ⟨"MazeBoardModel", "nextColumn", "(II)I"⟩ ∈ BG := BG_of (mt_0 (List.mem_of_getElem? (i := 33) rfl)) rfl
theorem mw_0_34 : Cond.selects "MazeBoardModel" ⟨"MazeBoardModel", "step", "(I)V"⟩ ⟨"MazeBoardModel", "step", "(I)V"⟩ ∈ BG := BG_of (mt_0 (List.mem_of_getElem? (i := 34) rfl)) rfl
theorem mw_0_35 : Cond.selects "MazeBoardModel" ⟨"MazeBoardModel", "points", "(I)V"⟩ ⟨"MazeBoardModel", "points", "(I)V"⟩ ∈ BG := BG_of (mt_0 (List.mem_of_getElem? (i := 35) rfl)) rfl
theorem mw_0_36 : Cond.selects "MazeBoardModel" ⟨"MazeBoardModel", "scare", "()V"⟩ ⟨"MazeBoardModel", "scare", "()V"⟩ ∈ BG := BG_of (mt_0 (List.mem_of_getElem? (i := 36) rfl)) rfl
theorem mw_0_37 : Cond.selects "MazeBoardModel" ⟨"MazeBoardModel", "hunter", "(I)V"⟩ ⟨"MazeBoardModel", "hunter", "(I)V"⟩ ∈ BG := BG_of (mt_0 (List.mem_of_getElem? (i := 37) rfl)) rfl
theorem mw_0_38 : Cond.selects "MazeBoardModel" ⟨"MazeBoardModel", "choose", "(I)V"⟩ ⟨"MazeBoardModel", "choose", "(I)V"⟩ ∈ BG := BG_of (mt_0 (List.mem_of_getElem? (i := 38) rfl)) rfl
theorem mw_0_39 : Cond.selects "MazeBoardModel" ⟨"MazeBoardModel", "drawn", "()I"⟩ ⟨"MazeBoardModel", "drawn", "()I"⟩ ∈ BG := BG_of (mt_0 (List.mem_of_getElem? (i := 39) rfl)) rfl
theorem mw_0_40 : Cond.selects "MazeBoardModel" ⟨"MazeBoardModel", "aim", "(IZ)I"⟩ ⟨"MazeBoardModel", "aim", "(IZ)I"⟩ ∈ BG := BG_of (mt_0 (List.mem_of_getElem? (i := 40) rfl)) rfl
theorem mw_0_41 : Cond.selects "MazeBoardModel" ⟨"MazeBoardModel", "scatters", "()Z"⟩ ⟨"MazeBoardModel", "scatters", "()Z"⟩ ∈ BG := BG_of (mt_0 (List.mem_of_getElem? (i := 41) rfl)) rfl
theorem mw_0_42 : Cond.selects "MazeBoardModel" ⟨"MazeBoardModel", "meet", "()V"⟩ ⟨"MazeBoardModel", "meet", "()V"⟩ ∈ BG := BG_of (mt_0 (List.mem_of_getElem? (i := 42) rfl)) rfl
theorem mw_0_43 : Cond.selects "MazeBoardModel" ⟨"MazeBoardModel", "met", "(I)Z"⟩ ⟨"MazeBoardModel", "met", "(I)Z"⟩ ∈ BG := BG_of (mt_0 (List.mem_of_getElem? (i := 43) rfl)) rfl
theorem mw_0_44 : Cond.selects "MazeBoardModel" ⟨"MazeBoardModel", "left", "()I"⟩ ⟨"MazeBoardModel", "left", "()I"⟩ ∈ BG := BG_of (mt_0 (List.mem_of_getElem? (i := 44) rfl)) rfl
theorem mw_0_45 : Cond.selects "MazeBoardModel" ⟨"MazeBoardModel", "hear", "()V"⟩ ⟨"MazeBoardModel", "hear", "()V"⟩ ∈ BG := BG_of (mt_0 (List.mem_of_getElem? (i := 45) rfl)) rfl
theorem mw_0_46 : Cond.selects "MazeBoardModel" ⟨"MazeBoardModel", "voice", "(IFI)V"⟩ ⟨"MazeBoardModel", "voice", "(IFI)V"⟩ ∈ BG := BG_of (mt_0 (List.mem_of_getElem? (i := 46) rfl)) rfl
theorem mw_0_47 : Cond.selects "MazeBoardModel" ⟨"MazeBoardModel", "reset", "()V"⟩ ⟨"MazeBoardModel", "reset", "()V"⟩ ∈ BG := BG_of (mt_0 (List.mem_of_getElem? (i := 47) rfl)) rfl
theorem mw_0_48 : Cond.selects "MazeBoardModel" ⟨"MazeBoardModel", "sprite", "(III)I"⟩ ⟨"MazeBoardModel", "sprite", "(III)I"⟩ ∈ BG := BG_of (mt_0 (List.mem_of_getElem? (i := 48) rfl)) rfl
theorem uw_X0 : ∀ w ∈ wsX00, w ∈ BG := List.forall_mem_cons.mpr ⟨mw_1_82, List.forall_mem_cons.mpr ⟨mw_1_84, List.forall_mem_cons.mpr ⟨mw_1_86, List.forall_mem_cons.mpr ⟨mw_1_88, List.forall_mem_cons.mpr ⟨mw_1_90, List.forall_mem_cons.mpr ⟨mw_1_92, List.forall_mem_cons.mpr ⟨mw_1_94, List.forall_mem_cons.mpr ⟨mw_1_96, List.forall_mem_cons.mpr ⟨mw_1_98, List.forall_mem_cons.mpr ⟨mw_1_100, List.forall_mem_cons.mpr ⟨mw_1_102, fun _ h => absurd h List.not_mem_nil⟩⟩⟩⟩⟩⟩⟩⟩⟩⟩⟩
theorem uw_X1 : ∀ w ∈ wsX10, w ∈ BG := List.forall_mem_cons.mpr ⟨mw_1_157, List.forall_mem_cons.mpr ⟨mw_1_159, List.forall_mem_cons.mpr ⟨mw_1_161, List.forall_mem_cons.mpr ⟨mw_1_163, List.forall_mem_cons.mpr ⟨mw_1_165, List.forall_mem_cons.mpr ⟨mw_1_167, List.forall_mem_cons.mpr ⟨mw_1_169, List.forall_mem_cons.mpr ⟨mw_1_171, List.forall_mem_cons.mpr ⟨mw_1_173, List.forall_mem_cons.mpr ⟨mw_1_175, List.forall_mem_cons.mpr ⟨mw_1_177, List.forall_mem_cons.mpr ⟨mw_1_179, List.forall_mem_cons.mpr ⟨mw_1_181, List.forall_mem_cons.mpr ⟨mw_1_183, List.forall_mem_cons.mpr ⟨mw_1_185, List.forall_mem_cons.mpr ⟨mw_1_187, fun _ h => absurd h List.not_mem_nil⟩⟩⟩⟩⟩⟩⟩⟩⟩⟩⟩⟩⟩⟩⟩⟩
theorem uw_X2 : ∀ w ∈ wsX20, w ∈ BG := List.forall_mem_cons.mpr ⟨mw_1_34, List.forall_mem_cons.mpr ⟨mw_1_36, fun _ h => absurd h List.not_mem_nil⟩⟩
theorem uw_X4 : ∀ w ∈ wsX40, w ∈ BG := List.forall_mem_cons.mpr ⟨mw_1_216, fun _ h => absurd h List.not_mem_nil⟩
theorem uw_X5 : ∀ w ∈ wsX50, w ∈ BG := List.forall_mem_cons.mpr ⟨mw_1_207, List.forall_mem_cons.mpr ⟨mw_1_209, List.forall_mem_cons.mpr ⟨mw_1_211, fun _ h => absurd h List.not_mem_nil⟩⟩⟩
theorem uw_X6 : ∀ w ∈ wsX60, w ∈ BG := List.forall_mem_cons.mpr ⟨mw_1_225, List.forall_mem_cons.mpr ⟨mw_1_227, List.forall_mem_cons.mpr ⟨mw_1_229, List.forall_mem_cons.mpr ⟨mw_1_231, List.forall_mem_cons.mpr ⟨mw_1_233, List.forall_mem_cons.mpr ⟨mw_1_235, fun _ h => absurd h List.not_mem_nil⟩⟩⟩⟩⟩⟩
theorem uw_X7 : ∀ w ∈ wsX70, w ∈ BG := List.forall_mem_cons.mpr ⟨mw_3_75, List.forall_mem_cons.mpr ⟨mw_3_77, List.forall_mem_cons.mpr ⟨mw_3_79, List.forall_mem_cons.mpr ⟨mw_3_81, List.forall_mem_cons.mpr ⟨mw_3_83, List.forall_mem_cons.mpr ⟨mw_3_85, List.forall_mem_cons.mpr ⟨mw_3_87, List.forall_mem_cons.mpr ⟨mw_3_89, List.forall_mem_cons.mpr ⟨mw_3_91, List.forall_mem_cons.mpr ⟨mw_3_93, List.forall_mem_cons.mpr ⟨mw_3_95, List.forall_mem_cons.mpr ⟨mw_3_97, List.forall_mem_cons.mpr ⟨mw_3_99, List.forall_mem_cons.mpr ⟨mw_3_101, List.forall_mem_cons.mpr ⟨mw_3_103, List.forall_mem_cons.mpr ⟨mw_3_105, List.forall_mem_cons.mpr ⟨mw_3_107, List.forall_mem_cons.mpr ⟨mw_3_109, List.forall_mem_cons.mpr ⟨mw_3_111, List.forall_mem_cons.mpr ⟨mw_3_113, List.forall_mem_cons.mpr ⟨mw_3_115, List.forall_mem_cons.mpr ⟨mw_3_117, List.forall_mem_cons.mpr ⟨mw_3_119, List.forall_mem_cons.mpr ⟨mw_3_121, List.forall_mem_cons.mpr ⟨mw_3_123, List.forall_mem_cons.mpr ⟨mw_3_125, List.forall_mem_cons.mpr ⟨mw_3_127, List.forall_mem_cons.mpr ⟨mw_3_129, List.forall_mem_cons.mpr ⟨mw_3_131, List.forall_mem_cons.mpr ⟨mw_3_133, List.forall_mem_cons.mpr ⟨mw_3_135, fun _ h => absurd h List.not_mem_nil⟩⟩⟩⟩⟩⟩⟩⟩⟩⟩⟩⟩⟩⟩⟩⟩⟩⟩⟩⟩⟩⟩⟩⟩⟩⟩⟩⟩⟩⟩⟩
end
section
/-! THE MEMORY: ints and floats by a cell's number and a place in it; the cells' shapes are fixed. -/
abbrev Mem : Type := (Nat → Nat → Int32) × (Nat → Nat → UInt32)
def gI (M : Mem) (c k : Nat) : Int32 := M.1 c k
def gF (M : Mem) (c k : Nat) : UInt32 := M.2 c k
def wI (M : Mem) (c k : Nat) (v : Int32) : Mem := (fun a b => if a = c ∧ b = k then v else M.1 a b, M.2)
def wF (M : Mem) (c k : Nat) (v : UInt32) : Mem := (M.1, fun a b => if a = c ∧ b = k then v else M.2 a b)
theorem gI_wI (M : Mem) (c k : Nat) (v : Int32) (a b : Nat) : gI (wI M c k v) a b = if a = c ∧ b = k then v else gI M a b := rfl
theorem gI_wF (M : Mem) (c k : Nat) (v : UInt32) (a b : Nat) : gI (wF M c k v) a b = gI M a b := rfl
theorem gF_wF (M : Mem) (c k : Nat) (v : UInt32) (a b : Nat) : gF (wF M c k v) a b = if a = c ∧ b = k then v else gF M a b := rfl
theorem gF_wI (M : Mem) (c k : Nat) (v : Int32) (a b : Nat) : gF (wI M c k v) a b = gF M a b := rfl
/-- a cell's shape: (0, its class, its fields), (1, _, length) ints, (2, _, length) floats, (3, _, length) references -/
def sh (c : Nat) : Nat × Nat × Nat := match c with
  | 0 => (0, 5, 6) | 1 => (0, 1, 16) | 2 => (0, 2, 2) | 3 => (1, 0, 117) | 4 => (3, 0, 5)
  | 5 => (0, 0, 11) | 6 => (0, 0, 11) | 7 => (0, 0, 11) | 8 => (0, 0, 11) | 9 => (0, 0, 11)
  | 10 => (0, 3, 1) | 11 => (3, 0, 3) | 12 => (0, 4, 3) | 13 => (0, 4, 3) | 14 => (0, 4, 3)
  | 20 => (0, 6, 31) | 21 => (1, 0, 117) | 22 => (1, 0, 117) | 23 => (1, 0, 5) | 24 => (1, 0, 5) | 25 => (1, 0, 5)
  | 26 => (2, 0, 5) | 27 => (1, 0, 5) | 28 => (1, 0, 5) | 29 => (1, 0, 5) | 30 => (1, 0, 5) | 31 => (1, 0, 5)
  | 32 => (1, 0, 3) | 33 => (1, 0, 3) | 34 => (2, 0, 3) | _ => (9, 0, 0)
/-- what an array cell holds -/
def aty (c : Nat) : FieldType := match c with
  | 3 => .byte | 4 => .object "MazeBoard$Actor" | 11 => .object "MazeBoard$Voice"
  | 26 => .float | 34 => .float | 27 => .boolean | 29 => .boolean | _ => .int
/-- a field's kind: 0 an int, 1 a float, 2 a reference -/
def fty (ci k : Nat) : Nat := match ci with
  | 0 => if k = 3 then 1 else 0
  | 1 => if k < 3 then 2 else 0
  | 2 => if k = 0 then 2 else 0
  | 3 => 2
  | 4 => if k = 2 then 1 else 0
  | 5 => if k < 2 then 2 else 0
  | 6 => if k < 2 then 2 else if 16 ≤ k ∧ k ≤ 27 then 2 else 0
  | _ => 0
/-- who refers to whom, once all is made -/
def R0 (c k : Nat) : Option Nat := match c with
  | 0 => (match k with | 0 => some 1 | 1 => some 10 | _ => none)
  | 1 => (match k with | 0 => some 2 | 1 => some 4 | 2 => some 5 | _ => none)
  | 2 => (match k with | 0 => some 3 | _ => none)
  | 4 => some (5 + k)
  | 10 => (match k with | 0 => some 11 | _ => none)
  | 11 => some (12 + k)
  | 20 => (match k with | 0 => some 21 | 1 => some 22 | 16 => some 23 | 17 => some 24 | 18 => some 25 | 19 => some 26 | 20 => some 27 | 21 => some 28 | 22 => some 29 | 23 => some 30 | 24 => some 31 | 25 => some 32 | 26 => some 33 | 27 => some 34 | _ => none)
  | _ => none
def fv (ad : Nat → Nat) (RR : Nat → Nat → Option Nat) (M : Mem) (c t k : Nat) : Value := match t with
  | 0 => .int (gI M c k)
  | 1 => .float (gF M c k)
  | _ => va_rf ((RR c k).map ad)
def cel (cy ad : Nat → Nat) (RR : Nat → Nat → Option Nat) (M : Mem) (c : Nat) : va_E := match sh c with
  | (0, ci, n) => .inr (ci, (List.range n).map (fun k => fv ad RR M c (fty ci k) k))
  | (1, _, n) => .inl (cy c, n, .inl (fun j => gI M c j))
  | (2, _, n) => .inl (cy c, n, .inr (.inr (.inl (fun j => gF M c j))))
  | (_, _, n) => .inl (cy c, n, .inr (.inr (.inr (.inr (fun j => (RR c j).map ad)))))
/-- the world: the cells numbered in L, at their addresses -/
def wl (cy ad : Nat → Nat) (RR : Nat → Nat → Option Nat) (M : Mem) (L : List Nat) : va_W := L.map (fun c => (ad c, cel cy ad RR M c))
section WL
variable {cy ad : Nat → Nat} {RR RS : Nat → Nat → Option Nat} {M M' : Mem} {L : List Nat} {c ci n t : Nat}
theorem wl_get (h : c ∈ L) : ∃ k : Nat, (wl cy ad RR M L)[k]? = some (ad c, cel cy ad RR M c) := List.getElem?_of_mem (List.mem_map.mpr ⟨c, h, rfl⟩)
theorem cel_obj (h : sh c = (0, ci, n)) : cel cy ad RR M c = .inr (ci, (List.range n).map (fun k => fv ad RR M c (fty ci k) k)) := by unfold cel; rw [h]; rfl
theorem cel_i (h : sh c = (1, t, n)) : cel cy ad RR M c = .inl (cy c, n, .inl (fun j => gI M c j)) := by unfold cel; rw [h]; rfl
theorem cel_f (h : sh c = (2, t, n)) : cel cy ad RR M c = .inl (cy c, n, .inr (.inr (.inl (fun j => gF M c j)))) := by unfold cel; rw [h]; rfl
theorem cel_r (h : sh c = (3, t, n)) : cel cy ad RR M c = .inl (cy c, n, .inr (.inr (.inr (.inr (fun j => (RR c j).map ad))))) := by unfold cel; rw [h]; rfl
theorem cel_congr {a : Nat} (hi : ∀ j, gI M' a j = gI M a j) (hf : ∀ j, gF M' a j = gF M a j) (hr : ∀ j, RS a j = RR a j) : cel cy ad RS M' a = cel cy ad RR M a := by
  have e1 : (fun j => gI M' a j) = (fun j => gI M a j) := funext hi
  have e2 : (fun j => gF M' a j) = (fun j => gF M a j) := funext hf
  have e3 : (fun j => (RS a j).map ad) = (fun j => (RR a j).map ad) := funext fun j => by rw [hr]
  have e4 : ∀ ci : Nat, (fun k => fv ad RS M' a (fty ci k) k) = (fun k => fv ad RR M a (fty ci k) k) := fun ci => funext fun k => by
    unfold fv
    split
    · rw [hi]
    · rw [hf]
    · rw [hr]
  unfold cel
  split
  · rw [e4]
  · rw [e1]
  · rw [e2]
  · rw [e3]
theorem wl_set {A : Nat → Prop} {q : Nat} {E : va_E} (hD : va_D A (wl cy ad RR M L)) (hc : c ∈ L) (hk : (wl cy ad RR M L)[q]? = some (ad c, cel cy ad RR M c)) (he : cel cy ad RS M' c = E) (hn : ∀ a, a ≠ c → cel cy ad RS M' a = cel cy ad RR M a) : (wl cy ad RR M L).set q (ad c, E) = wl cy ad RS M' L := by
  have hl := (List.getElem?_eq_some_iff.mp hk).1
  obtain ⟨i, hi⟩ := List.getElem?_of_mem hc
  have h2 : (wl cy ad RR M L)[i]? = some (ad c, cel cy ad RR M c) := by
    simp only [wl, List.getElem?_map, hi]
    rfl
  have hqi : q = i := hD.1 q i _ _ hk h2 rfl
  subst hqi
  apply List.ext_getElem?
  intro j
  by_cases hj : j = q
  · subst hj
    rw [List.getElem?_set_self hl]
    simp only [wl, List.getElem?_map, hi, ← he]
    rfl
  · rw [List.getElem?_set_ne (Ne.symm hj)]
    simp only [wl, List.getElem?_map]
    cases hb : L[j]? with
    | none => rfl
    | some b =>
      have hbc : b ≠ c := by
        intro hab
        subst hab
        have h3 : (wl cy ad RR M L)[j]? = some (ad b, cel cy ad RR M b) := by
          simp only [wl, List.getElem?_map, hb]
          rfl
        exact hj (hD.1 j q _ _ h3 hk rfl)
      show some (ad b, cel cy ad RR M b) = some (ad b, cel cy ad RS M' b)
      rw [hn b hbc]
theorem range_set {f g : Nat → Value} {N k : Nat} {v : Value} (hk : k < N) (h1 : g k = v) (h2 : ∀ j, j ≠ k → g j = f j) : (List.range N).map g = ((List.range N).map f).set k v := by
  apply List.ext_getElem?
  intro j
  by_cases hj : j = k
  · subst hj
    rw [List.getElem?_set_self (by simpa using hk), List.getElem?_map, List.getElem?_range hk, ← h1]
    rfl
  · rw [List.getElem?_set_ne (Ne.symm hj), List.getElem?_map, List.getElem?_map]
    by_cases hjn : j < N
    · rw [List.getElem?_range hjn]
      show some (g j) = some (f j)
      rw [h2 j hj]
    · rw [List.getElem?_eq_none (by simpa using hjn)]
      rfl
theorem range_at {f : Nat → Value} {N k : Nat} (hk : k < N) : ((List.range N).map f)[k]? = some (f k) := by
  rw [List.getElem?_map, List.getElem?_range hk]
  rfl
end WL
/-- the classes and array classes of the cells in L are as the tables have them -/
def KK (D : va_G) (cy : Nat → Nat) (L : List Nat) (s : State) : Prop := va_K D vwCl [] s ∧ ∀ c ∈ L, (sh c).1 ≠ 0 → va_K D vwCl [(cy c, aty c)] s
theorem KK.moved {D : va_G} {cy : Nat → Nat} {L : List Nat} {u U : State} (hvm : u.vm.Alike U.vm) (h : KK D cy L u) : KK D cy L U := ⟨va_K.moved hvm h.1, fun c hc hs => va_K.moved hvm (h.2 c hc hs)⟩
/-- where a walk stands: the world holds M, its cells are apart and in A, nothing else has changed -/
def Cx (D : va_G) (cy ad : Nat → Nat) (RR : Nat → Nat → Option Nat) (L : List Nat) (A : Nat → Prop) (s : State) (M : Mem) (H : Heap) (locs : List Loc) : Prop := va_P D vwCl (wl cy ad RR M L) H ∧ va_D A (wl cy ad RR M L) ∧ va_S A s.heap H locs
section QR
variable {p : Program} {l : Launch} {e : Env} {R : Room} {s : State} {m : MethodId} {args : Array Value} {below : List Frame} {meth : Method} {c : Code} {H : Heap} {locs : List Loc} {cells slots : Nat} {Q : State → Prop}
variable {cc : ByteArray} {pc : Nat} {ls : Array Slot} {rest : List Value} {D : va_G} {cy ad : Nat → Nat} {RR : Nat → Nat → Option Nat} {M : Mem} {L : List Nat} {A : Nat → Prop}
theorem q_geti (hx : p.tables.exec = Jvm.exec) (hb : c.code = cc) {own C : String} {T : u_T} {N ci index : Nat} {Ts : List Cond} (hts : ∀ w ∈ Ts, w.before args s = true) (hin : ∀ w ∈ u_ws C T N, w ∈ Ts) (hown : s.vm.findClass own = some m.cls) (hK : KK D cy L s) (hC : Cx D cy ad RR L A s M H locs) {id : Nat} (hs : sh id = (0, ci, N)) (hL : id ∈ L) (hc : vwCl[ci]? = some (C, T, N)) (k : Nat) (hk : k < N) (hf : fty ci k = 0) (hlink : (Cond.fieldLink own index (T k).1 (T k).2.1 (T k).2.2.1).before args s = true) (hdg : decode cc pc = .ok (.getfield index, 3))
    (kk : W p l e R s m args below meth c H locs cells slots Q (F0 m (pc + 3) ls (.int (gI M id k) :: rest))) : W p l e R s m args below meth c H locs cells slots Q (F0 m pc ls (.ref (ad id) :: rest)) := by
  obtain ⟨q, hq⟩ := wl_get (cy := cy) (ad := ad) (RR := RR) (M := M) hL
  rw [cel_obj hs] at hq
  exact va_get hx hb hts hin hown hK.1 hC.1 q hq hc k hk hlink (fun _ h => h) (by rw [range_at hk, hf]; rfl) hdg kk
theorem q_getf (hx : p.tables.exec = Jvm.exec) (hb : c.code = cc) {own C : String} {T : u_T} {N ci index : Nat} {Ts : List Cond} (hts : ∀ w ∈ Ts, w.before args s = true) (hin : ∀ w ∈ u_ws C T N, w ∈ Ts) (hown : s.vm.findClass own = some m.cls) (hK : KK D cy L s) (hC : Cx D cy ad RR L A s M H locs) {id : Nat} (hs : sh id = (0, ci, N)) (hL : id ∈ L) (hc : vwCl[ci]? = some (C, T, N)) (k : Nat) (hk : k < N) (hf : fty ci k = 1) (hlink : (Cond.fieldLink own index (T k).1 (T k).2.1 (T k).2.2.1).before args s = true) (hdg : decode cc pc = .ok (.getfield index, 3))
    (kk : W p l e R s m args below meth c H locs cells slots Q (F0 m (pc + 3) ls (.float (gF M id k) :: rest))) : W p l e R s m args below meth c H locs cells slots Q (F0 m pc ls (.ref (ad id) :: rest)) := by
  obtain ⟨q, hq⟩ := wl_get (cy := cy) (ad := ad) (RR := RR) (M := M) hL
  rw [cel_obj hs] at hq
  exact va_get hx hb hts hin hown hK.1 hC.1 q hq hc k hk hlink (fun _ h => h) (by rw [range_at hk, hf]; rfl) hdg kk
theorem q_getr (hx : p.tables.exec = Jvm.exec) (hb : c.code = cc) {own C : String} {T : u_T} {N ci index : Nat} {Ts : List Cond} (hts : ∀ w ∈ Ts, w.before args s = true) (hin : ∀ w ∈ u_ws C T N, w ∈ Ts) (hown : s.vm.findClass own = some m.cls) (hK : KK D cy L s) (hC : Cx D cy ad RR L A s M H locs) {id : Nat} (hs : sh id = (0, ci, N)) (hL : id ∈ L) (hc : vwCl[ci]? = some (C, T, N)) (k : Nat) (hk : k < N) (hf : fty ci k = 2) {j : Nat} (hr : RR id k = some j) (hlink : (Cond.fieldLink own index (T k).1 (T k).2.1 (T k).2.2.1).before args s = true) (hdg : decode cc pc = .ok (.getfield index, 3))
    (kk : W p l e R s m args below meth c H locs cells slots Q (F0 m (pc + 3) ls (.ref (ad j) :: rest))) : W p l e R s m args below meth c H locs cells slots Q (F0 m pc ls (.ref (ad id) :: rest)) := by
  obtain ⟨q, hq⟩ := wl_get (cy := cy) (ad := ad) (RR := RR) (M := M) hL
  rw [cel_obj hs] at hq
  exact va_get hx hb hts hin hown hK.1 hC.1 q hq hc k hk hlink (fun _ h => h) (by rw [range_at hk, hf]; simp only [fv, hr]; rfl) hdg kk
theorem q_puti (hx : p.tables.exec = Jvm.exec) (hb : c.code = cc) {own C : String} {T : u_T} {N ci index : Nat} {Ts : List Cond} (hts : ∀ w ∈ Ts, w.before args s = true) (hin : ∀ w ∈ u_ws C T N, w ∈ Ts) (ty0 : Nat → FieldType) (hty : ∀ k, k < N → parseFieldDescriptor (T k).2.2.1 = some (ty0 k)) (hnm : ∀ a, a < N → ∀ b, b < N → a ≠ b → (T a).2.1 ≠ (T b).2.1) (hown : s.vm.findClass own = some m.cls) (hK : KK D cy L s) (hC : Cx D cy ad RR L A s M H locs) {id : Nat} (hs : sh id = (0, ci, N)) (hL : id ∈ L) (hc : vwCl[ci]? = some (C, T, N)) (k : Nat) (hk : k < N) (hf : fty ci k = 0) (hlink : (Cond.fieldLink own index (T k).1 (T k).2.1 (T k).2.2.1).before args s = true) (hfin : (T k).2.2.2 = false) {ty : FieldType} {v : Int32} (hd : ty0 k = ty) (hn : narrow ty (.int v) = .int v) (hfit : fits ty (.int v) = true) (hdg : decode cc pc = .ok (.putfield index, 3))
    (kk : ∀ (H1 : Heap) (locs1 : List Loc), Cx D cy ad RR L A s (wI M id k v) H1 locs1 → W p l e R s m args below meth c H1 locs1 cells slots Q (F0 m (pc + 3) ls rest)) : W p l e R s m args below meth c H locs cells slots Q (F0 m pc ls (.int v :: .ref (ad id) :: rest)) := by
  obtain ⟨q, hq0⟩ := wl_get (cy := cy) (ad := ad) (RR := RR) (M := M) hL
  have hq := hq0
  rw [cel_obj hs] at hq
  refine va_put hx hb hts hin ty0 hty hnm hown hK.1 hC.1 hC.2.1 hC.2.2 q hq hc k hk hlink (fun _ h => h) hfin (ty := ty) (by rw [← hd]; exact hty k hk) hn hfit (by simpa using hk) hdg (fun H1 locs1 hP hD hS => kk H1 locs1 ?_)
  have e := wl_set (RS := RR) (M' := wI M id k v) hC.2.1 hL hq0 (E := .inr (ci, ((List.range N).map (fun k => fv ad RR M id (fty ci k) k)).set k (.int v))) (by
    rw [cel_obj hs]
    refine congrArg (fun z => Sum.inr (ci, z)) (range_set hk ?_ ?_)
    · rw [hf]
      show Value.int (gI (wI M id k v) id k) = _
      rw [gI_wI, if_pos ⟨rfl, rfl⟩]
    · intro j hj
      unfold fv
      split
      · rw [gI_wI, if_neg (fun z => hj z.2)]
      · rfl
      · rfl) (fun a ha => cel_congr (fun j => by rw [gI_wI, if_neg (fun z => ha z.1)]) (fun j => rfl) (fun j => rfl))
  rw [e] at hP hD
  exact ⟨hP, hD, hS⟩
theorem q_putf (hx : p.tables.exec = Jvm.exec) (hb : c.code = cc) {own C : String} {T : u_T} {N ci index : Nat} {Ts : List Cond} (hts : ∀ w ∈ Ts, w.before args s = true) (hin : ∀ w ∈ u_ws C T N, w ∈ Ts) (ty0 : Nat → FieldType) (hty : ∀ k, k < N → parseFieldDescriptor (T k).2.2.1 = some (ty0 k)) (hnm : ∀ a, a < N → ∀ b, b < N → a ≠ b → (T a).2.1 ≠ (T b).2.1) (hown : s.vm.findClass own = some m.cls) (hK : KK D cy L s) (hC : Cx D cy ad RR L A s M H locs) {id : Nat} (hs : sh id = (0, ci, N)) (hL : id ∈ L) (hc : vwCl[ci]? = some (C, T, N)) (k : Nat) (hk : k < N) (hf : fty ci k = 1) (hlink : (Cond.fieldLink own index (T k).1 (T k).2.1 (T k).2.2.1).before args s = true) (hfin : (T k).2.2.2 = false) {v : UInt32} (hd : ty0 k = .float) (hdg : decode cc pc = .ok (.putfield index, 3))
    (kk : ∀ (H1 : Heap) (locs1 : List Loc), Cx D cy ad RR L A s (wF M id k v) H1 locs1 → W p l e R s m args below meth c H1 locs1 cells slots Q (F0 m (pc + 3) ls rest)) : W p l e R s m args below meth c H locs cells slots Q (F0 m pc ls (.float v :: .ref (ad id) :: rest)) := by
  obtain ⟨q, hq0⟩ := wl_get (cy := cy) (ad := ad) (RR := RR) (M := M) hL
  have hq := hq0
  rw [cel_obj hs] at hq
  refine va_put hx hb hts hin ty0 hty hnm hown hK.1 hC.1 hC.2.1 hC.2.2 q hq hc k hk hlink (fun _ h => h) hfin (ty := .float) (by rw [← hd]; exact hty k hk) rfl rfl (by simpa using hk) hdg (fun H1 locs1 hP hD hS => kk H1 locs1 ?_)
  have e := wl_set (RS := RR) (M' := wF M id k v) hC.2.1 hL hq0 (E := .inr (ci, ((List.range N).map (fun k => fv ad RR M id (fty ci k) k)).set k (.float v))) (by
    rw [cel_obj hs]
    refine congrArg (fun z => Sum.inr (ci, z)) (range_set hk ?_ ?_)
    · rw [hf]
      show Value.float (gF (wF M id k v) id k) = _
      rw [gF_wF, if_pos ⟨rfl, rfl⟩]
    · intro j hj
      unfold fv
      split
      · rfl
      · rw [gF_wF, if_neg (fun z => hj z.2)]
      · rfl) (fun a ha => cel_congr (fun j => rfl) (fun j => by rw [gF_wF, if_neg (fun z => ha z.1)]) (fun j => rfl))
  rw [e] at hP hD
  exact ⟨hP, hD, hS⟩
theorem q_iald (hx : p.tables.exec = Jvm.exec) (hb : c.code = cc) (hK : KK D cy L s) (hC : Cx D cy ad RR L A s M H locs) {id t n : Nat} (hs : sh id = (1, t, n)) (hL : id ∈ L) (ht : aty id = .int) {i : Int32} (hin : vp_in i n) (hdg : decode cc pc = .ok (.iaload, 1))
    (kk : W p l e R s m args below meth c H locs cells slots Q (F0 m (pc + 1) ls (.int (gI M id i.toNatClampNeg) :: rest))) : W p l e R s m args below meth c H locs cells slots Q (F0 m pc ls (.int i :: .ref (ad id) :: rest)) := by
  obtain ⟨q, hq⟩ := wl_get (cy := cy) (ad := ad) (RR := RR) (M := M) hL
  rw [cel_i hs] at hq
  exact va_iald hx hb (hK.2 id hL (by simp [hs])) hC.1 q 0 hq (by rw [ht]; rfl) hin hdg kk
theorem q_bald (hx : p.tables.exec = Jvm.exec) (hb : c.code = cc) (hK : KK D cy L s) (hC : Cx D cy ad RR L A s M H locs) {id t n : Nat} (hs : sh id = (1, t, n)) (hL : id ∈ L) (ht : aty id = .byte) {i : Int32} (hin : vp_in i n) (hdg : decode cc pc = .ok (.baload, 1))
    (kk : W p l e R s m args below meth c H locs cells slots Q (F0 m (pc + 1) ls (.int (gI M id i.toNatClampNeg) :: rest))) : W p l e R s m args below meth c H locs cells slots Q (F0 m pc ls (.int i :: .ref (ad id) :: rest)) := by
  obtain ⟨q, hq⟩ := wl_get (cy := cy) (ad := ad) (RR := RR) (M := M) hL
  rw [cel_i hs] at hq
  exact va_bald hx hb (hK.2 id hL (by simp [hs])) hC.1 q 0 hq (by rw [ht]; rfl) hin hdg kk
theorem q_zald (hx : p.tables.exec = Jvm.exec) (hb : c.code = cc) (hK : KK D cy L s) (hC : Cx D cy ad RR L A s M H locs) {id t n : Nat} (hs : sh id = (1, t, n)) (hL : id ∈ L) (ht : aty id = .boolean) {i : Int32} (hin : vp_in i n) (hdg : decode cc pc = .ok (.baload, 1))
    (kk : W p l e R s m args below meth c H locs cells slots Q (F0 m (pc + 1) ls (.int (gI M id i.toNatClampNeg) :: rest))) : W p l e R s m args below meth c H locs cells slots Q (F0 m pc ls (.int i :: .ref (ad id) :: rest)) := by
  obtain ⟨q, hq⟩ := wl_get (cy := cy) (ad := ad) (RR := RR) (M := M) hL
  rw [cel_i hs] at hq
  exact va_zald hx hb (hK.2 id hL (by simp [hs])) hC.1 q 0 hq (by rw [ht]; rfl) hin hdg kk
theorem q_fald (hx : p.tables.exec = Jvm.exec) (hb : c.code = cc) (hK : KK D cy L s) (hC : Cx D cy ad RR L A s M H locs) {id t n : Nat} (hs : sh id = (2, t, n)) (hL : id ∈ L) (ht : aty id = .float) {i : Int32} (hin : vp_in i n) (hdg : decode cc pc = .ok (.faload, 1))
    (kk : W p l e R s m args below meth c H locs cells slots Q (F0 m (pc + 1) ls (.float (gF M id i.toNatClampNeg) :: rest))) : W p l e R s m args below meth c H locs cells slots Q (F0 m pc ls (.int i :: .ref (ad id) :: rest)) := by
  obtain ⟨q, hq⟩ := wl_get (cy := cy) (ad := ad) (RR := RR) (M := M) hL
  rw [cel_f hs] at hq
  exact va_fald hx hb (hK.2 id hL (by simp [hs])) hC.1 q 0 hq (by rw [ht]; rfl) hin hdg kk
theorem q_aald (hx : p.tables.exec = Jvm.exec) (hb : c.code = cc) (hK : KK D cy L s) (hC : Cx D cy ad RR L A s M H locs) {id t n : Nat} {CA : String} (hs : sh id = (3, t, n)) (hL : id ∈ L) (ht : aty id = .object CA) {i : Int32} {j : Nat} (hin : vp_in i n) (hr : RR id i.toNatClampNeg = some j) (hdg : decode cc pc = .ok (.aaload, 1))
    (kk : W p l e R s m args below meth c H locs cells slots Q (F0 m (pc + 1) ls (.ref (ad j) :: rest))) : W p l e R s m args below meth c H locs cells slots Q (F0 m pc ls (.int i :: .ref (ad id) :: rest)) := by
  obtain ⟨q, hq⟩ := wl_get (cy := cy) (ad := ad) (RR := RR) (M := M) hL
  rw [cel_r hs] at hq
  refine va_aldq hx hb (hK.2 id hL (by simp [hs])) hC.1 q 0 hq (by rw [ht]; rfl) hin hdg ?_
  rw [hr]
  exact kk
theorem Cx.seti {H1 : Heap} {locs1 : List Loc} {id t n q i : Nat} {v : Int32} (hC : Cx D cy ad RR L A s M H locs) (hs : sh id = (1, t, n)) (hL : id ∈ L) (hq0 : (wl cy ad RR M L)[q]? = some (ad id, cel cy ad RR M id)) (hP : va_P D vwCl ((wl cy ad RR M L).set q (ad id, .inl (cy id, n, .inl (upd (fun j => gI M id j) i v)))) H1) (hD : va_D A ((wl cy ad RR M L).set q (ad id, .inl (cy id, n, .inl (upd (fun j => gI M id j) i v))))) (hS : va_S A s.heap H1 locs1) : Cx D cy ad RR L A s (wI M id i v) H1 locs1 := by
  have e := wl_set (RS := RR) (M' := wI M id i v) hC.2.1 hL hq0 (E := .inl (cy id, n, .inl (upd (fun j => gI M id j) i v))) (by
    rw [cel_i hs]
    refine congrArg (fun z => Sum.inl (cy id, n, Sum.inl z)) (funext fun j => ?_)
    rw [gI_wI]
    by_cases hj : j = i
    · rw [if_pos ⟨rfl, hj⟩, hj, pk_us]
    · rw [if_neg (fun z => hj z.2), pk_un hj]) (fun a ha => cel_congr (fun j => by rw [gI_wI, if_neg (fun z => ha z.1)]) (fun j => rfl) (fun j => rfl))
  rw [e] at hP hD
  exact ⟨hP, hD, hS⟩
theorem q_iast (hx : p.tables.exec = Jvm.exec) (hb : c.code = cc) (hK : KK D cy L s) (hC : Cx D cy ad RR L A s M H locs) {id t n : Nat} (hs : sh id = (1, t, n)) (hL : id ∈ L) (ht : aty id = .int) {i x : Int32} (hin : vp_in i n) (hdg : decode cc pc = .ok (.iastore, 1))
    (kk : ∀ (H1 : Heap) (locs1 : List Loc), Cx D cy ad RR L A s (wI M id i.toNatClampNeg x) H1 locs1 → W p l e R s m args below meth c H1 locs1 cells slots Q (F0 m (pc + 1) ls rest)) : W p l e R s m args below meth c H locs cells slots Q (F0 m pc ls (.int x :: .int i :: .ref (ad id) :: rest)) := by
  obtain ⟨q, hq0⟩ := wl_get (cy := cy) (ad := ad) (RR := RR) (M := M) hL
  have hq := hq0
  rw [cel_i hs] at hq
  exact va_iast hx hb (hK.2 id hL (by simp [hs])) hC.1 hC.2.1 hC.2.2 q 0 hq (by rw [ht]; rfl) hin hdg (fun H1 locs1 hP hD hS => kk H1 locs1 (hC.seti hs hL hq0 hP hD hS))
theorem q_bast (hx : p.tables.exec = Jvm.exec) (hb : c.code = cc) (hK : KK D cy L s) (hC : Cx D cy ad RR L A s M H locs) {id t n : Nat} (hs : sh id = (1, t, n)) (hL : id ∈ L) (ht : aty id = .byte) {i x v : Int32} (hin : vp_in i n) (hv : vp_nar .byte x = v) (hdg : decode cc pc = .ok (.bastore, 1))
    (kk : ∀ (H1 : Heap) (locs1 : List Loc), Cx D cy ad RR L A s (wI M id i.toNatClampNeg v) H1 locs1 → W p l e R s m args below meth c H1 locs1 cells slots Q (F0 m (pc + 1) ls rest)) : W p l e R s m args below meth c H locs cells slots Q (F0 m pc ls (.int x :: .int i :: .ref (ad id) :: rest)) := by
  obtain ⟨q, hq0⟩ := wl_get (cy := cy) (ad := ad) (RR := RR) (M := M) hL
  have hq := hq0
  rw [cel_i hs] at hq
  refine va_bast hx hb (hK.2 id hL (by simp [hs])) hC.1 hC.2.1 hC.2.2 q 0 hq (by rw [ht]; rfl) hin hdg (fun H1 locs1 hP hD hS => kk H1 locs1 (hC.seti hs hL hq0 ?_ ?_ hS))
  · rw [← hv]; exact hP
  · rw [← hv]; exact hD
theorem q_zast (hx : p.tables.exec = Jvm.exec) (hb : c.code = cc) (hK : KK D cy L s) (hC : Cx D cy ad RR L A s M H locs) {id t n : Nat} (hs : sh id = (1, t, n)) (hL : id ∈ L) (ht : aty id = .boolean) {i x v : Int32} (hin : vp_in i n) (hv : vp_nar .boolean x = v) (hdg : decode cc pc = .ok (.bastore, 1))
    (kk : ∀ (H1 : Heap) (locs1 : List Loc), Cx D cy ad RR L A s (wI M id i.toNatClampNeg v) H1 locs1 → W p l e R s m args below meth c H1 locs1 cells slots Q (F0 m (pc + 1) ls rest)) : W p l e R s m args below meth c H locs cells slots Q (F0 m pc ls (.int x :: .int i :: .ref (ad id) :: rest)) := by
  obtain ⟨q, hq0⟩ := wl_get (cy := cy) (ad := ad) (RR := RR) (M := M) hL
  have hq := hq0
  rw [cel_i hs] at hq
  refine va_zast hx hb (hK.2 id hL (by simp [hs])) hC.1 hC.2.1 hC.2.2 q 0 hq (by rw [ht]; rfl) hin hdg (fun H1 locs1 hP hD hS => kk H1 locs1 (hC.seti hs hL hq0 ?_ ?_ hS))
  · rw [← hv]; exact hP
  · rw [← hv]; exact hD
theorem q_fast (hx : p.tables.exec = Jvm.exec) (hb : c.code = cc) (hK : KK D cy L s) (hC : Cx D cy ad RR L A s M H locs) {id t n : Nat} (hs : sh id = (2, t, n)) (hL : id ∈ L) (ht : aty id = .float) {i : Int32} {x : UInt32} (hin : vp_in i n) (hdg : decode cc pc = .ok (.fastore, 1))
    (kk : ∀ (H1 : Heap) (locs1 : List Loc), Cx D cy ad RR L A s (wF M id i.toNatClampNeg x) H1 locs1 → W p l e R s m args below meth c H1 locs1 cells slots Q (F0 m (pc + 1) ls rest)) : W p l e R s m args below meth c H locs cells slots Q (F0 m pc ls (.float x :: .int i :: .ref (ad id) :: rest)) := by
  obtain ⟨q, hq0⟩ := wl_get (cy := cy) (ad := ad) (RR := RR) (M := M) hL
  have hq := hq0
  rw [cel_f hs] at hq
  refine va_fast hx hb (hK.2 id hL (by simp [hs])) hC.1 hC.2.1 hC.2.2 q 0 hq (by rw [ht]; rfl) hin hdg (fun H1 locs1 hP hD hS => kk H1 locs1 ?_)
  have e := wl_set (RS := RR) (M' := wF M id i.toNatClampNeg x) hC.2.1 hL hq0 (E := .inl (cy id, n, .inr (.inr (.inl (vf_upd (fun j => gF M id j) i.toNatClampNeg x))))) (by
    rw [cel_f hs]
    refine congrArg (fun z => Sum.inl (cy id, n, Sum.inr (Sum.inr (Sum.inl z)))) (funext fun j => ?_)
    rw [gF_wF]
    by_cases hj : j = i.toNatClampNeg
    · simp [hj, vf_upd]
    · simp [hj, vf_upd]) (fun a ha => cel_congr (fun j => rfl) (fun j => by rw [gF_wF, if_neg (fun z => ha z.1)]) (fun j => rfl))
  rw [e] at hP hD
  exact ⟨hP, hD, hS⟩
theorem q_alen (hx : p.tables.exec = Jvm.exec) (hb : c.code = cc) (hK : KK D cy L s) (hC : Cx D cy ad RR L A s M H locs) {id t n : Nat} (hs : sh id = (1, t, n)) (hL : id ∈ L) {v : Int32} (hv : Int32.ofNat n = v) (hdg : decode cc pc = .ok (.arraylength, 1))
    (kk : W p l e R s m args below meth c H locs cells slots Q (F0 m (pc + 1) ls (.int v :: rest))) : W p l e R s m args below meth c H locs cells slots Q (F0 m pc ls (.ref (ad id) :: rest)) := by
  obtain ⟨q, hq⟩ := wl_get (cy := cy) (ad := ad) (RR := RR) (M := M) hL
  rw [cel_i hs] at hq
  exact va_alen hx hb (hK.2 id hL (by simp [hs])) hC.1 q 0 hq rfl hv hdg kk
end QR
end
section
/-! CONTRACTS over the memory: how a method begins, calls and ends -/
/-- what a method may change: the cells in L, and what is new -/
def fA (ad : Nat → Nat) (L : List Nat) (sz : Nat) : Nat → Prop := fun q => (∃ c ∈ L, q = ad c) ∨ sz ≤ q
theorem fA_mono {ad : Nat → Nat} {L : List Nat} {a b q : Nat} (h : a ≤ b) (hq : fA ad L b q) : fA ad L a q := hq.elim Or.inl (fun z => Or.inr (Nat.le_trans h z))
def planL : List Int32 := [1, 1, 1, 1, 1, 1, 1, 1, 1, 1, 1, 1, 1, 1, 3, 2, 2, 2, 2, 1, 2, 2, 2, 2, 3, 1, 1, 2, 1, 1, 2, 2, 2, 2, 2, 1, 1, 2, 1, 1, 2, 1, 2, 2, 1, 4, 1, 2, 2, 1, 2, 1, 2, 2, 2, 2, 1, 4, 4, 4, 1, 2, 2, 2, 2, 1, 2, 1, 2, 2, 1, 1, 1, 2, 2, 1, 2, 1, 1, 2, 1, 1, 2, 2, 2, 2, 2, 1, 1, 2, 1, 1, 3, 2, 2, 2, 2, 1, 2, 2, 2, 2, 3, 1, 1, 1, 1, 1, 1, 1, 1, 1, 1, 1, 1, 1, 1]
def planF (j : Nat) : Int32 := planL.getD j 0
def nestL : List (String × Nat × MethodName × String) := [("MazeBoard$Actor", 39, ⟨"MazeBoard", "nextColumn", "(II)I"⟩, "MazeBoard"), ("MazeBoard$Actor", 45, ⟨"MazeBoard", "nextRow", "(II)I"⟩, "MazeBoard"), ("MazeBoard$Game", 24, ⟨"MazeBoard$Actor", "<init>", "()V"⟩, "MazeBoard"), ("MazeBoard$Game", 162, ⟨"MazeBoard", "opposite", "(I)I"⟩, "MazeBoard"), ("MazeBoard$Game", 198, ⟨"MazeBoard", "nextColumn", "(II)I"⟩, "MazeBoard"), ("MazeBoard$Game", 201, ⟨"MazeBoard", "nextRow", "(II)I"⟩, "MazeBoard"), ("MazeBoard$Game", 210, ⟨"MazeBoard", "distance", "(IIII)I"⟩, "MazeBoard"), ("MazeBoard$Game", 229, ⟨"MazeBoard", "columnStep", "(I)I"⟩, "MazeBoard"), ("MazeBoard$Game", 232, ⟨"MazeBoard", "rowStep", "(I)I"⟩, "MazeBoard"), ("MazeBoard$Maze", 27, ⟨"MazeBoard", "nextColumn", "(II)I"⟩, "MazeBoard"), ("MazeBoard$Maze", 34, ⟨"MazeBoard", "nextRow", "(II)I"⟩, "MazeBoard"), ("MazeBoard$Picture", 39, ⟨"MazeBoard", "columnStep", "(I)I"⟩, "MazeBoard"), ("MazeBoard$Picture", 46, ⟨"MazeBoard", "rowStep", "(I)I"⟩, "MazeBoard"), ("MazeBoard$Speaker", 17, ⟨"MazeBoard$Voice", "<init>", "()V"⟩, "MazeBoard")]
def NW (U : State) : Prop := ∀ q ∈ nestL, va_Nw (.methodLinkNest q.1 q.2.1 q.2.2.1 q.2.2.2) U
def PL (A : Nat → Prop) (U : State) : Prop := ∃ t : Nat, va_Z "MazeBoard$Maze" "PLAN" "[B" (.ref t) A U U.heap ∧ va_T .byte t 117 (fun j => .int (planF j)) A U U.heap
def EX (A : Nat → Prop) (U : State) : Prop := PL A U ∧ NW U
def PW (D : va_G) (cy ad : Nat → Nat) (L : List Nat) (M : Mem) (sz : Nat) (U : State) : Prop := U.heap.size = sz ∧ va_P D vwCl (wl cy ad R0 M L) U.heap ∧ KK D cy L U ∧ va_D (fun _ => True) (wl cy ad R0 M L) ∧ EX (fA ad L sz) U
def OW (D : va_G) (cy ad : Nat → Nat) (L : List Nat) (sz : Nat) (M : Mem) (t : State) : Prop := va_P D vwCl (wl cy ad R0 M L) t.heap ∧ va_D (fA ad L sz) (wl cy ad R0 M L)
theorem wl_self {A : Nat → Prop} {cy ad : Nat → Nat} {RR : Nat → Nat → Option Nat} {M : Mem} {L : List Nat} {sz : Nat} (h : va_D A (wl cy ad RR M L)) : va_D (fA ad L sz) (wl cy ad RR M L) := by
  refine h.weaken (fun k q hk _ => Or.inl ?_)
  obtain ⟨c, hc, rfl⟩ := List.mem_map.mp (List.mem_of_getElem? hk)
  exact ⟨c, hc, rfl⟩
theorem EX.go {A B : Nat → Prop} {s U : State} {H : Heap} {locs : List Loc} (h : EX A s) (hS : va_S A s.heap H locs) (hAB : ∀ q, B q → A q) (hU : U.heap = H) (hW : s.WarmedH U.vm) : EX B U := by
  obtain ⟨⟨t, hZ, hT⟩, hN⟩ := h
  refine ⟨⟨t, ?_, ?_⟩, fun q hq => va_Nw.warmM hW (hN q hq)⟩
  · rw [hU]
    exact ((hZ.kept (H1 := H) (fun a h1 h2 => hS.2.1 a h1 h2)).moved hW.alike).narrow hAB
  · rw [hU]
    exact ((hT.kept (H1 := H) (fun a h1 h2 => hS.2.1 a h1 h2)).moved hW.alike).narrow hAB
theorem PW_blind {D : va_G} {cy ad : Nat → Nat} {L : List Nat} {M : Mem} {sz : Nat} {av : List Value} : FrameBlind (va_Pc av (PW D cy ad L M sz)) := by
  intro a U g mk q
  obtain ⟨q0, q1, qP, qK, qD, ⟨t, hZ, hT⟩, hN⟩ := q
  exact ⟨q0, q1, qP, KK.moved (u := U) (U := U.calling g mk a) (Vm.Alike.refl U.vm) qK, qD, ⟨t, va_Z.moved (u := U) (U := U.calling g mk a) (Vm.Alike.refl U.vm) hZ, va_T.moved (u := U) (U := U.calling g mk a) (Vm.Alike.refl U.vm) hT⟩, fun z hz => va_Nw.same rfl (u := U) (U := U.calling g mk a) rfl (hN z hz)⟩
section QC
variable {p : Program} {l : Launch} {e : Env} {R : Room} {s : State} {m : MethodId} {args : Array Value} {below : List Frame} {meth : Method} {c : Code} {H : Heap} {locs : List Loc} {cells slots : Nat} {Q : State → Prop}
variable {cc : ByteArray} {pc : Nat} {ls : Array Slot} {rest st0 : List Value} {D : va_G} {cy ad : Nat → Nat} {M : Mem} {L : List Nat} {a : Array Value}
theorem PW_call (hC : Cx D cy ad R0 L (fA ad L s.heap.size) s M H locs) (hK : KK D cy L s) (hE : EX (fA ad L s.heap.size) s) {U : State} (hU : U.heap = H) (hW : s.WarmedH U.vm) : PW D cy ad L M H.size U :=
  ⟨by rw [hU], by rw [hU]; exact hC.1, hK.moved hW.alike, hC.2.1.weaken (fun _ _ _ _ => trivial), hE.go hC.2.2 (fun _ h => fA_mono hC.2.2.1 h) hU hW⟩
theorem q_Ci {post : Int32 → Mem → Prop} (hr : va_Run p l e R s m args below meth c H locs cells slots 0 0 (F0 m pc ls st0) rest (va_Qi post (OW D cy ad L H.size) (fA ad L H.size) a) (fA ad L H.size)) (hC : Cx D cy ad R0 L (fA ad L s.heap.size) s M H locs)
    (kk : ∀ (r : Int32) (M1 : Mem) (H1 : Heap) (locs1 : List Loc), post r M1 → Cx D cy ad R0 L (fA ad L s.heap.size) s M1 H1 locs1 → W p l e R s m args below meth c H1 locs1 cells slots Q (F0 m (pc + 3) ls (.int r :: rest))) : W p l e R s m args below meth c H locs cells slots Q (F0 m pc ls st0) :=
  va_calli hr hC.2.2 (fun q _ h => fA_mono hC.2.2.1 h) (fun q h => fA_mono hC.2.2.1 h) (fun r u t H1 locs1 ht _ hp hB _ _ hS => kk r u H1 locs1 hp ⟨by rw [← ht]; exact hB.1, hB.2.weaken (fun _ _ _ h => fA_mono hC.2.2.1 h), hS⟩)
theorem q_Cf {post : UInt32 → Mem → Prop} (hr : va_Run p l e R s m args below meth c H locs cells slots 0 0 (F0 m pc ls st0) rest (va_Qf post (OW D cy ad L H.size) (fA ad L H.size) a) (fA ad L H.size)) (hC : Cx D cy ad R0 L (fA ad L s.heap.size) s M H locs)
    (kk : ∀ (r : UInt32) (M1 : Mem) (H1 : Heap) (locs1 : List Loc), post r M1 → Cx D cy ad R0 L (fA ad L s.heap.size) s M1 H1 locs1 → W p l e R s m args below meth c H1 locs1 cells slots Q (F0 m (pc + 3) ls (.float r :: rest))) : W p l e R s m args below meth c H locs cells slots Q (F0 m pc ls st0) :=
  va_callf hr hC.2.2 (fun q _ h => fA_mono hC.2.2.1 h) (fun q h => fA_mono hC.2.2.1 h) (fun r u t H1 locs1 ht _ hp hB _ _ hS => kk r u H1 locs1 hp ⟨by rw [← ht]; exact hB.1, hB.2.weaken (fun _ _ _ h => fA_mono hC.2.2.1 h), hS⟩)
theorem q_Cv {post : Mem → Prop} (hr : va_Run p l e R s m args below meth c H locs cells slots 0 0 (F0 m pc ls st0) rest (va_Qv post (OW D cy ad L H.size) (fA ad L H.size) a) (fA ad L H.size)) (hC : Cx D cy ad R0 L (fA ad L s.heap.size) s M H locs)
    (kk : ∀ (M1 : Mem) (H1 : Heap) (locs1 : List Loc), post M1 → Cx D cy ad R0 L (fA ad L s.heap.size) s M1 H1 locs1 → W p l e R s m args below meth c H1 locs1 cells slots Q (F0 m (pc + 3) ls rest)) : W p l e R s m args below meth c H locs cells slots Q (F0 m pc ls st0) :=
  va_callv hr hC.2.2 (fun q _ h => fA_mono hC.2.2.1 h) (fun q h => fA_mono hC.2.2.1 h) (fun u t H1 locs1 ht _ hp hB _ _ hS => kk u H1 locs1 hp ⟨by rw [← ht]; exact hB.1, hB.2.weaken (fun _ _ _ h => fA_mono hC.2.2.1 h), hS⟩)
variable {y : MethodName} {bytes : ByteArray} {maxL nL n idx id ci N : Nat} {ret : Option FieldType} {rm : Room} {Qc : Array Value → State → Outcome → State → Prop} {own C host : String} {T : u_T} {As : List Value}
theorem q_V (S : CallFix p m c cc nL s args BG own) (hK : KK D cy L s) (hE : EX (fA ad L s.heap.size) s) (hC : Cx D cy ad R0 L (fA ad L s.heap.size) s M H locs) (hM : Met l y (Cond.code y bytes maxL ret :: BG) rm (va_Pc (.ref (ad id) :: As) (PW D cy ad L M H.size)) Qc 0 0 (fA ad L H.size)) (hs : sh id = (0, ci, N)) (hL : id ∈ L) (hc : vwCl[ci]? = some (C, T, N)) (h1 : Cond.methodLink own idx y ∈ BG) (h2 : Cond.instanceMethod y ∈ BG) (h3 : Cond.selects C y y ∈ BG) (h4 : Cond.initialized C ∈ BG) (h5 : Cond.code y bytes maxL ret ∈ BG) (hy : y.cls = C) (hd : y.cls ≠ "java/lang/invoke/MethodHandle" ∧ y.cls ≠ "java/lang/invoke/VarHandle" ∧ (parseMethodDescriptor y.desc).map (fun d => d.parameters.length) = some n) (hrm : rm.cells = 0 ∧ rm.slots = 0) (hR : rm.frames + 1 ≤ R.frames ∧ 8 + (maxL + 11) + rm.locals ≤ R.locals) (hn : As.length = n) (hsz : ls.size = nL) (hst : st0 = As.reverse ++ .ref (ad id) :: rest) (hrest : (rest.map fun v => v.category).sum ≤ 8) (hdg : decode cc pc = .ok (.invokevirtual idx, 3)) (hf : cells ≤ R.cells ∧ slots ≤ R.slots) : va_Run p l e R s m args below meth c H locs cells slots 0 0 (F0 m pc ls st0) rest (Qc (Value.ref (ad id) :: As).toArray) (fA ad L H.size) := by
  obtain ⟨q, hq⟩ := wl_get (cy := cy) (ad := ad) (RR := R0) (M := M) hL
  rw [cel_obj hs] at hq
  exact va_runV S hM (cwV n S.2.2.2.2 (gd_V (fun _ h => h) h1 h2 h3 h4 h5) rfl hrm.1 hrm.2 ⟨hy, hd⟩ hR) ⟨PW_blind, va_recv hK.1 hC.1 hc hq, fun U hU hW => ⟨rfl, PW_call hC hK hE hU hW⟩⟩ rfl hn hsz hst (lv_room (pc := pc) (ls := ls) (rest := st0) hrest) hdg hf
theorem q_S (S : CallFix p m c cc nL s args BG own) (hK : KK D cy L s) (hE : EX (fA ad L s.heap.size) s) (hC : Cx D cy ad R0 L (fA ad L s.heap.size) s M H locs) (hM : Met l y (Cond.code y bytes maxL ret :: BG) rm (va_Pc As (PW D cy ad L M H.size)) Qc 0 0 (fA ad L H.size)) (h1 : Cond.methodLink own idx y ∈ BG) (h2 : Cond.static y ∈ BG) (h4 : Cond.initialized y.cls ∈ BG) (h5 : Cond.code y bytes maxL ret ∈ BG) (hd : y.cls ≠ "java/lang/invoke/MethodHandle" ∧ y.cls ≠ "java/lang/invoke/VarHandle" ∧ (parseMethodDescriptor y.desc).map (fun d => d.parameters.length) = some n) (hrm : rm.cells = 0 ∧ rm.slots = 0) (hR : rm.frames + 1 ≤ R.frames ∧ 8 + (maxL + 11) + rm.locals ≤ R.locals) (hn : As.length = n) (hsz : ls.size = nL) (hst : st0 = As.reverse ++ rest) (hrest : (rest.map fun v => v.category).sum ≤ 8) (hdg : decode cc pc = .ok (.invokestatic idx, 3)) (hf : cells ≤ R.cells ∧ slots ≤ R.slots) : va_Run p l e R s m args below meth c H locs cells slots 0 0 (F0 m pc ls st0) rest (Qc As.toArray) (fA ad L H.size) :=
  va_runS S hM (va_cwS n S.2.2.2.2 (gd_S (fun _ h => h) h1 h2 h4 h5) rfl hrm.1 hrm.2 hd hR) ⟨PW_blind, fun U hU hW => ⟨rfl, PW_call hC hK hE hU hW⟩⟩ rfl hn hsz hst (lv_room (pc := pc) (ls := ls) (rest := st0) hrest) hdg hf
theorem q_N (S : CallFix p m c cc nL s args BG own) (hK : KK D cy L s) (hE : EX (fA ad L s.heap.size) s) (hC : Cx D cy ad R0 L (fA ad L s.heap.size) s M H locs) (hM : Met l y (Cond.code y bytes maxL ret :: BG) rm (va_Pc As (PW D cy ad L M H.size)) Qc 0 0 (fA ad L H.size)) (h1 : va_Nw (.methodLinkNest own idx y host) s) (h2 : Cond.static y ∈ BG) (h4 : Cond.initialized y.cls ∈ BG) (h5 : Cond.code y bytes maxL ret ∈ BG) (hd : y.cls ≠ "java/lang/invoke/MethodHandle" ∧ y.cls ≠ "java/lang/invoke/VarHandle" ∧ (parseMethodDescriptor y.desc).map (fun d => d.parameters.length) = some n) (hrm : rm.cells = 0 ∧ rm.slots = 0) (hR : rm.frames + 1 ≤ R.frames ∧ 8 + (maxL + 11) + rm.locals ≤ R.locals) (hn : As.length = n) (hsz : ls.size = nL) (hst : st0 = As.reverse ++ rest) (hrest : (rest.map fun v => v.category).sum ≤ 8) (hdg : decode cc pc = .ok (.invokestatic idx, 3)) (hf : cells ≤ R.cells ∧ slots ≤ R.slots) : va_Run p l e R s m args below meth c H locs cells slots 0 0 (F0 m pc ls st0) rest (Qc As.toArray) (fA ad L H.size) :=
  va_runSN S hM ⟨va_cnB n S.2.2.2.2 (gd_C (fun _ h => h) h5) rfl hrm.1 hrm.2 h1 (S.2.2.2.2 _ h4) hd hR, S.2.2.2.2 _ h2, trivial⟩ ⟨PW_blind, fun U hU hW => ⟨rfl, PW_call hC hK hE hU hW⟩⟩ rfl hn hsz hst (lv_room (pc := pc) (ls := ls) (rest := st0) hrest) hdg hf
theorem q_reti {post : Int32 → Mem → Prop} {v : Int32} (hx : p.tables.exec = Jvm.exec) (hb : c.code = cc) (hr : meth.sig.returnType = some .int) (hlocks : meth.locks = false) (hC : Cx D cy ad R0 L (fA ad L s.heap.size) s M H locs) (hp : post v M) (hdg : decode cc pc = .ok (.ireturn, 1)) : W p l e R s m args below meth c H locs cells slots (MQ below (va_Qi post (OW D cy ad L s.heap.size) (fA ad L s.heap.size)) args s cells slots (fA ad L s.heap.size)) (F0 m pc ls [.int v]) :=
  W.iret hx hb hr (fun t ht _ => ⟨⟨v, M, rfl, hp, by rw [ht]; exact hC.1, hC.2.1⟩, hC.2.2.F ht⟩) hC.2.2.2.2 hdg hlocks
theorem q_retz {post : Int32 → Mem → Prop} {v : Int32} (hx : p.tables.exec = Jvm.exec) (hb : c.code = cc) (hr : meth.sig.returnType = some .boolean) (hlocks : meth.locks = false) (hC : Cx D cy ad R0 L (fA ad L s.heap.size) s M H locs) (hn : v = 0 ∨ v = 1) (hp : post v M) (hdg : decode cc pc = .ok (.ireturn, 1)) : W p l e R s m args below meth c H locs cells slots (MQ below (va_Qi post (OW D cy ad L s.heap.size) (fA ad L s.heap.size)) args s cells slots (fA ad L s.heap.size)) (F0 m pc ls [.int v]) :=
  W.zret hx hb hr (by rcases hn with rfl | rfl <;> decide) (fun t ht _ => ⟨⟨v, M, rfl, hp, by rw [ht]; exact hC.1, hC.2.1⟩, hC.2.2.F ht⟩) hC.2.2.2.2 hdg hlocks
theorem q_retf {post : UInt32 → Mem → Prop} {v : UInt32} (hx : p.tables.exec = Jvm.exec) (hb : c.code = cc) (hr : meth.sig.returnType = some .float) (hlocks : meth.locks = false) (hC : Cx D cy ad R0 L (fA ad L s.heap.size) s M H locs) (hp : post v M) (hdg : decode cc pc = .ok (.freturn, 1)) : W p l e R s m args below meth c H locs cells slots (MQ below (va_Qf post (OW D cy ad L s.heap.size) (fA ad L s.heap.size)) args s cells slots (fA ad L s.heap.size)) (F0 m pc ls [.float v]) :=
  W.fret hx hb hr (fun t ht _ => ⟨⟨v, M, rfl, hp, by rw [ht]; exact hC.1, hC.2.1⟩, hC.2.2.F ht⟩) hC.2.2.2.2 hdg hlocks
theorem q_retv {post : Mem → Prop} (hx : p.tables.exec = Jvm.exec) (hb : c.code = cc) (hr : meth.sig.returnType = none) (hlocks : meth.locks = false) (hC : Cx D cy ad R0 L (fA ad L s.heap.size) s M H locs) (hp : post M) (hdg : decode cc pc = .ok (.return_, 1)) : W p l e R s m args below meth c H locs cells slots (MQ below (va_Qv post (OW D cy ad L s.heap.size) (fA ad L s.heap.size)) args s cells slots (fA ad L s.heap.size)) (F0 m pc ls []) :=
  W.vret hx hb hr (fun t ht _ => ⟨⟨M, rfl, hp, by rw [ht]; exact hC.1, hC.2.1⟩, hC.2.2.F ht⟩) hC.2.2.2.2 hdg hlocks
theorem q_start {sz : Nat} {av : List Value} (hy : plainName y.cls = true) (hlen : (lg_sl av).length ≤ maxL)
    (body : ∀ (p : Program) (e : Env) (s : State) (m : MethodId) (below : List Frame) (meth : Method) (c : Code) (ls : Array Slot), sz = s.heap.size → p.tables.exec = Jvm.exec → c.code = bytes → meth.sig.returnType = ret → meth.locks = false → c.maxLocals = maxL → s.vm.findClass y.cls = some m.cls → (∀ w ∈ BG, w.before av.toArray s = true) → KK D cy L s → EX (fA ad L s.heap.size) s → Cx D cy ad R0 L (fA ad L s.heap.size) s M s.heap [] → lv_has ls maxL (lv_args 0 av) →
      W p l e rm s m av.toArray below meth c s.heap [] 0 0 (MQ below Qc av.toArray s 0 0 (fA ad L s.heap.size)) (F0 m 0 ls [])) : Met l y (Cond.code y bytes maxL ret :: BG) rm (va_Pc av (PW D cy ad L M sz)) Qc 0 0 (fA ad L sz) := by
  refine Met.ofW (cc := bytes) (maxL := maxL) (ret := ret) hy rfl ?_
  intro p e s m args below meth c s₁ B hml hv
  obtain ⟨rfl, hsz, hP, hK, hD0, hE⟩ := hv
  subst hsz
  have hts := atoms_spec (ws := Cond.code y bytes maxL ret :: BG) B.pre
  have hl := lv_entry av (n := maxL) hlen
  rw [lg_entry_eq]
  exact body p e s m below meth c _ rfl B.exec B.bytes B.returns B.notSynchronized hml (findClass_of_methodNamed B.named) (fun w h => hts w (List.mem_cons_of_mem _ h)) hK hE ⟨hP, wl_self hD0, va_S.rf⟩ hl
end QC
theorem iteT {c a b : Prop} [Decidable c] (h : if c then a else b) (hc : c) : a := by rwa [if_pos hc] at h
theorem iteF {c a b : Prop} [Decidable c] (h : if c then a else b) (hc : ¬ c) : b := by rwa [if_neg hc] at h
/-- the cells from lo to hi are there -/
def lr (lo hi : Nat) (L : List Nat) : Prop := ∀ c, lo ≤ c → c ≤ hi → c ∈ L
theorem lr.sub {a b a' b' : Nat} {L : List Nat} (h : lr a b L) (h1 : a ≤ a') (h2 : b' ≤ b) : lr a' b' L := fun c x y => h c (Nat.le_trans h1 x) (Nat.le_trans y h2)
def isA (h : Nat) : Prop := 5 ≤ h ∧ h ≤ 9
def isV (h : Nat) : Prop := 12 ≤ h ∧ h ≤ 14
theorem isA.sh {h : Nat} (x : isA h) : sh h = (0, 0, 11) := by
  obtain ⟨a, b⟩ := x
  rcases (show h = 5 ∨ h = 6 ∨ h = 7 ∨ h = 8 ∨ h = 9 by omega) with rfl | rfl | rfl | rfl | rfl <;> rfl
theorem isV.sh {h : Nat} (x : isV h) : sh h = (0, 4, 3) := by
  obtain ⟨a, b⟩ := x
  rcases (show h = 12 ∨ h = 13 ∨ h = 14 by omega) with rfl | rfl | rfl <;> rfl
theorem isA.of {i : Int32} (x : vp_in i 5) : isA (5 + i.toNatClampNeg) := by
  have : i.toNatClampNeg < 5 := Nat.not_le.mp fun q => x (Or.inr q)
  exact ⟨by omega, by omega⟩
theorem isV.of {i : Int32} (x : vp_in i 3) : isV (12 + i.toNatClampNeg) := by
  have : i.toNatClampNeg < 3 := Nat.not_le.mp fun q => x (Or.inr q)
  exact ⟨by omega, by omega⟩
theorem bo_n {v : Int32} (h : v = 0 ∨ v = 1) : narrow .boolean (.int v) = .int v := by rcases h with rfl | rfl <;> decide
theorem bo_f {v : Int32} (h : v = 0 ∨ v = 1) : fits .boolean (.int v) = true := by rcases h with rfl | rfl <;> decide
theorem bo_v {v : Int32} (h : v = 0 ∨ v = 1) : vp_nar .boolean v = v := by rcases h with rfl | rfl <;> decide
theorem nw_X0_39 {U : State} (h : NW U) : va_Nw (.methodLinkNest "MazeBoard$Actor" 39 ⟨"MazeBoard", "nextColumn", "(II)I"⟩ "MazeBoard") U := h _ (List.mem_of_getElem? (i := 0) rfl)
theorem nw_X0_45 {U : State} (h : NW U) : va_Nw (.methodLinkNest "MazeBoard$Actor" 45 ⟨"MazeBoard", "nextRow", "(II)I"⟩ "MazeBoard") U := h _ (List.mem_of_getElem? (i := 1) rfl)
theorem nw_X1_24 {U : State} (h : NW U) : va_Nw (.methodLinkNest "MazeBoard$Game" 24 ⟨"MazeBoard$Actor", "<init>", "()V"⟩ "MazeBoard") U := h _ (List.mem_of_getElem? (i := 2) rfl)
theorem nw_X1_162 {U : State} (h : NW U) : va_Nw (.methodLinkNest "MazeBoard$Game" 162 ⟨"MazeBoard", "opposite", "(I)I"⟩ "MazeBoard") U := h _ (List.mem_of_getElem? (i := 3) rfl)
theorem nw_X1_198 {U : State} (h : NW U) : va_Nw (.methodLinkNest "MazeBoard$Game" 198 ⟨"MazeBoard", "nextColumn", "(II)I"⟩ "MazeBoard") U := h _ (List.mem_of_getElem? (i := 4) rfl)
theorem nw_X1_201 {U : State} (h : NW U) : va_Nw (.methodLinkNest "MazeBoard$Game" 201 ⟨"MazeBoard", "nextRow", "(II)I"⟩ "MazeBoard") U := h _ (List.mem_of_getElem? (i := 5) rfl)
theorem nw_X1_210 {U : State} (h : NW U) : va_Nw (.methodLinkNest "MazeBoard$Game" 210 ⟨"MazeBoard", "distance", "(IIII)I"⟩ "MazeBoard") U := h _ (List.mem_of_getElem? (i := 6) rfl)
theorem nw_X1_229 {U : State} (h : NW U) : va_Nw (.methodLinkNest "MazeBoard$Game" 229 ⟨"MazeBoard", "columnStep", "(I)I"⟩ "MazeBoard") U := h _ (List.mem_of_getElem? (i := 7) rfl)
theorem nw_X1_232 {U : State} (h : NW U) : va_Nw (.methodLinkNest "MazeBoard$Game" 232 ⟨"MazeBoard", "rowStep", "(I)I"⟩ "MazeBoard") U := h _ (List.mem_of_getElem? (i := 8) rfl)
theorem nw_X2_27 {U : State} (h : NW U) : va_Nw (.methodLinkNest "MazeBoard$Maze" 27 ⟨"MazeBoard", "nextColumn", "(II)I"⟩ "MazeBoard") U := h _ (List.mem_of_getElem? (i := 9) rfl)
theorem nw_X2_34 {U : State} (h : NW U) : va_Nw (.methodLinkNest "MazeBoard$Maze" 34 ⟨"MazeBoard", "nextRow", "(II)I"⟩ "MazeBoard") U := h _ (List.mem_of_getElem? (i := 10) rfl)
theorem nw_X3_39 {U : State} (h : NW U) : va_Nw (.methodLinkNest "MazeBoard$Picture" 39 ⟨"MazeBoard", "columnStep", "(I)I"⟩ "MazeBoard") U := h _ (List.mem_of_getElem? (i := 11) rfl)
theorem nw_X3_46 {U : State} (h : NW U) : va_Nw (.methodLinkNest "MazeBoard$Picture" 46 ⟨"MazeBoard", "rowStep", "(I)I"⟩ "MazeBoard") U := h _ (List.mem_of_getElem? (i := 12) rfl)
theorem nw_X4_17 {U : State} (h : NW U) : va_Nw (.methodLinkNest "MazeBoard$Speaker" 17 ⟨"MazeBoard$Voice", "<init>", "()V"⟩ "MazeBoard") U := h _ (List.mem_of_getElem? (i := 13) rfl)
theorem yd_X0_init : yX0_init.cls ≠ "java/lang/invoke/MethodHandle" ∧ yX0_init.cls ≠ "java/lang/invoke/VarHandle" ∧ (parseMethodDescriptor yX0_init.desc).map (fun d => d.parameters.length) = some 0 := by decide +kernel
theorem yd_X0_place : yX0_place.cls ≠ "java/lang/invoke/MethodHandle" ∧ yX0_place.cls ≠ "java/lang/invoke/VarHandle" ∧ (parseMethodDescriptor yX0_place.desc).map (fun d => d.parameters.length) = some 4 := by decide +kernel
theorem yd_X0_rememberCell : yX0_rememberCell.cls ≠ "java/lang/invoke/MethodHandle" ∧ yX0_rememberCell.cls ≠ "java/lang/invoke/VarHandle" ∧ (parseMethodDescriptor yX0_rememberCell.desc).map (fun d => d.parameters.length) = some 0 := by decide +kernel
theorem yd_X0_enterNextCell : yX0_enterNextCell.cls ≠ "java/lang/invoke/MethodHandle" ∧ yX0_enterNextCell.cls ≠ "java/lang/invoke/VarHandle" ∧ (parseMethodDescriptor yX0_enterNextCell.desc).map (fun d => d.parameters.length) = some 0 := by decide +kernel
theorem yd_X0_isAt : yX0_isAt.cls ≠ "java/lang/invoke/MethodHandle" ∧ yX0_isAt.cls ≠ "java/lang/invoke/VarHandle" ∧ (parseMethodDescriptor yX0_isAt.desc).map (fun d => d.parameters.length) = some 2 := by decide +kernel
theorem yd_X0_meets : yX0_meets.cls ≠ "java/lang/invoke/MethodHandle" ∧ yX0_meets.cls ≠ "java/lang/invoke/VarHandle" ∧ (parseMethodDescriptor yX0_meets.desc).map (fun d => d.parameters.length) = some 1 := by decide +kernel
theorem yd_X0_aimAt : yX0_aimAt.cls ≠ "java/lang/invoke/MethodHandle" ∧ yX0_aimAt.cls ≠ "java/lang/invoke/VarHandle" ∧ (parseMethodDescriptor yX0_aimAt.desc).map (fun d => d.parameters.length) = some 2 := by decide +kernel
theorem yd_X1_init : yX1_init.cls ≠ "java/lang/invoke/MethodHandle" ∧ yX1_init.cls ≠ "java/lang/invoke/VarHandle" ∧ (parseMethodDescriptor yX1_init.desc).map (fun d => d.parameters.length) = some 0 := by decide +kernel
theorem yd_X1_clear : yX1_clear.cls ≠ "java/lang/invoke/MethodHandle" ∧ yX1_clear.cls ≠ "java/lang/invoke/VarHandle" ∧ (parseMethodDescriptor yX1_clear.desc).map (fun d => d.parameters.length) = some 0 := by decide +kernel
theorem yd_X1_begin : yX1_begin.cls ≠ "java/lang/invoke/MethodHandle" ∧ yX1_begin.cls ≠ "java/lang/invoke/VarHandle" ∧ (parseMethodDescriptor yX1_begin.desc).map (fun d => d.parameters.length) = some 0 := by decide +kernel
theorem yd_X1_setUp : yX1_setUp.cls ≠ "java/lang/invoke/MethodHandle" ∧ yX1_setUp.cls ≠ "java/lang/invoke/VarHandle" ∧ (parseMethodDescriptor yX1_setUp.desc).map (fun d => d.parameters.length) = some 0 := by decide +kernel
theorem yd_X1_placeActors : yX1_placeActors.cls ≠ "java/lang/invoke/MethodHandle" ∧ yX1_placeActors.cls ≠ "java/lang/invoke/VarHandle" ∧ (parseMethodDescriptor yX1_placeActors.desc).map (fun d => d.parameters.length) = some 0 := by decide +kernel
theorem yd_X1_playFrame : yX1_playFrame.cls ≠ "java/lang/invoke/MethodHandle" ∧ yX1_playFrame.cls ≠ "java/lang/invoke/VarHandle" ∧ (parseMethodDescriptor yX1_playFrame.desc).map (fun d => d.parameters.length) = some 1 := by decide +kernel
theorem yd_X1_passTime : yX1_passTime.cls ≠ "java/lang/invoke/MethodHandle" ∧ yX1_passTime.cls ≠ "java/lang/invoke/VarHandle" ∧ (parseMethodDescriptor yX1_passTime.desc).map (fun d => d.parameters.length) = some 0 := by decide +kernel
theorem yd_X1_isScatter : yX1_isScatter.cls ≠ "java/lang/invoke/MethodHandle" ∧ yX1_isScatter.cls ≠ "java/lang/invoke/VarHandle" ∧ (parseMethodDescriptor yX1_isScatter.desc).map (fun d => d.parameters.length) = some 0 := by decide +kernel
theorem yd_X1_movePlayer : yX1_movePlayer.cls ≠ "java/lang/invoke/MethodHandle" ∧ yX1_movePlayer.cls ≠ "java/lang/invoke/VarHandle" ∧ (parseMethodDescriptor yX1_movePlayer.desc).map (fun d => d.parameters.length) = some 1 := by decide +kernel
theorem yd_X1_isStickOpen : yX1_isStickOpen.cls ≠ "java/lang/invoke/MethodHandle" ∧ yX1_isStickOpen.cls ≠ "java/lang/invoke/VarHandle" ∧ (parseMethodDescriptor yX1_isStickOpen.desc).map (fun d => d.parameters.length) = some 1 := by decide +kernel
theorem yd_X1_eatHere : yX1_eatHere.cls ≠ "java/lang/invoke/MethodHandle" ∧ yX1_eatHere.cls ≠ "java/lang/invoke/VarHandle" ∧ (parseMethodDescriptor yX1_eatHere.desc).map (fun d => d.parameters.length) = some 0 := by decide +kernel
theorem yd_X1_addPoints : yX1_addPoints.cls ≠ "java/lang/invoke/MethodHandle" ∧ yX1_addPoints.cls ≠ "java/lang/invoke/VarHandle" ∧ (parseMethodDescriptor yX1_addPoints.desc).map (fun d => d.parameters.length) = some 1 := by decide +kernel
theorem yd_X1_frightenHunters : yX1_frightenHunters.cls ≠ "java/lang/invoke/MethodHandle" ∧ yX1_frightenHunters.cls ≠ "java/lang/invoke/VarHandle" ∧ (parseMethodDescriptor yX1_frightenHunters.desc).map (fun d => d.parameters.length) = some 0 := by decide +kernel
theorem yd_X1_turnAbout : yX1_turnAbout.cls ≠ "java/lang/invoke/MethodHandle" ∧ yX1_turnAbout.cls ≠ "java/lang/invoke/VarHandle" ∧ (parseMethodDescriptor yX1_turnAbout.desc).map (fun d => d.parameters.length) = some 1 := by decide +kernel
theorem yd_X1_moveHunter : yX1_moveHunter.cls ≠ "java/lang/invoke/MethodHandle" ∧ yX1_moveHunter.cls ≠ "java/lang/invoke/VarHandle" ∧ (parseMethodDescriptor yX1_moveHunter.desc).map (fun d => d.parameters.length) = some 1 := by decide +kernel
theorem yd_X1_chooseDirection : yX1_chooseDirection.cls ≠ "java/lang/invoke/MethodHandle" ∧ yX1_chooseDirection.cls ≠ "java/lang/invoke/VarHandle" ∧ (parseMethodDescriptor yX1_chooseDirection.desc).map (fun d => d.parameters.length) = some 2 := by decide +kernel
theorem yd_X1_drawNumber : yX1_drawNumber.cls ≠ "java/lang/invoke/MethodHandle" ∧ yX1_drawNumber.cls ≠ "java/lang/invoke/VarHandle" ∧ (parseMethodDescriptor yX1_drawNumber.desc).map (fun d => d.parameters.length) = some 0 := by decide +kernel
theorem yd_X1_firstOpenFrom : yX1_firstOpenFrom.cls ≠ "java/lang/invoke/MethodHandle" ∧ yX1_firstOpenFrom.cls ≠ "java/lang/invoke/VarHandle" ∧ (parseMethodDescriptor yX1_firstOpenFrom.desc).map (fun d => d.parameters.length) = some 2 := by decide +kernel
theorem yd_X1_nearestToAim : yX1_nearestToAim.cls ≠ "java/lang/invoke/MethodHandle" ∧ yX1_nearestToAim.cls ≠ "java/lang/invoke/VarHandle" ∧ (parseMethodDescriptor yX1_nearestToAim.desc).map (fun d => d.parameters.length) = some 1 := by decide +kernel
theorem yd_X1_setAim : yX1_setAim.cls ≠ "java/lang/invoke/MethodHandle" ∧ yX1_setAim.cls ≠ "java/lang/invoke/VarHandle" ∧ (parseMethodDescriptor yX1_setAim.desc).map (fun d => d.parameters.length) = some 2 := by decide +kernel
theorem yd_X1_isNearPlayer : yX1_isNearPlayer.cls ≠ "java/lang/invoke/MethodHandle" ∧ yX1_isNearPlayer.cls ≠ "java/lang/invoke/VarHandle" ∧ (parseMethodDescriptor yX1_isNearPlayer.desc).map (fun d => d.parameters.length) = some 1 := by decide +kernel
theorem yd_X1_aimAtPlayer : yX1_aimAtPlayer.cls ≠ "java/lang/invoke/MethodHandle" ∧ yX1_aimAtPlayer.cls ≠ "java/lang/invoke/VarHandle" ∧ (parseMethodDescriptor yX1_aimAtPlayer.desc).map (fun d => d.parameters.length) = some 2 := by decide +kernel
theorem yd_X1_meetHunters : yX1_meetHunters.cls ≠ "java/lang/invoke/MethodHandle" ∧ yX1_meetHunters.cls ≠ "java/lang/invoke/VarHandle" ∧ (parseMethodDescriptor yX1_meetHunters.desc).map (fun d => d.parameters.length) = some 0 := by decide +kernel
theorem yd_X1_eatHunter : yX1_eatHunter.cls ≠ "java/lang/invoke/MethodHandle" ∧ yX1_eatHunter.cls ≠ "java/lang/invoke/VarHandle" ∧ (parseMethodDescriptor yX1_eatHunter.desc).map (fun d => d.parameters.length) = some 1 := by decide +kernel
theorem yd_X1_loseLife : yX1_loseLife.cls ≠ "java/lang/invoke/MethodHandle" ∧ yX1_loseLife.cls ≠ "java/lang/invoke/VarHandle" ∧ (parseMethodDescriptor yX1_loseLife.desc).map (fun d => d.parameters.length) = some 0 := by decide +kernel
theorem yd_X1_humPitch : yX1_humPitch.cls ≠ "java/lang/invoke/MethodHandle" ∧ yX1_humPitch.cls ≠ "java/lang/invoke/VarHandle" ∧ (parseMethodDescriptor yX1_humPitch.desc).map (fun d => d.parameters.length) = some 0 := by decide +kernel
theorem yd_X2_init : yX2_init.cls ≠ "java/lang/invoke/MethodHandle" ∧ yX2_init.cls ≠ "java/lang/invoke/VarHandle" ∧ (parseMethodDescriptor yX2_init.desc).map (fun d => d.parameters.length) = some 0 := by decide +kernel
theorem yd_X2_refill : yX2_refill.cls ≠ "java/lang/invoke/MethodHandle" ∧ yX2_refill.cls ≠ "java/lang/invoke/VarHandle" ∧ (parseMethodDescriptor yX2_refill.desc).map (fun d => d.parameters.length) = some 0 := by decide +kernel
theorem yd_X2_whatIs : yX2_whatIs.cls ≠ "java/lang/invoke/MethodHandle" ∧ yX2_whatIs.cls ≠ "java/lang/invoke/VarHandle" ∧ (parseMethodDescriptor yX2_whatIs.desc).map (fun d => d.parameters.length) = some 2 := by decide +kernel
theorem yd_X2_isOpen : yX2_isOpen.cls ≠ "java/lang/invoke/MethodHandle" ∧ yX2_isOpen.cls ≠ "java/lang/invoke/VarHandle" ∧ (parseMethodDescriptor yX2_isOpen.desc).map (fun d => d.parameters.length) = some 2 := by decide +kernel
theorem yd_X2_eat : yX2_eat.cls ≠ "java/lang/invoke/MethodHandle" ∧ yX2_eat.cls ≠ "java/lang/invoke/VarHandle" ∧ (parseMethodDescriptor yX2_eat.desc).map (fun d => d.parameters.length) = some 2 := by decide +kernel
theorem yd_X3_tileColour : yX3_tileColour.cls ≠ "java/lang/invoke/MethodHandle" ∧ yX3_tileColour.cls ≠ "java/lang/invoke/VarHandle" ∧ (parseMethodDescriptor yX3_tileColour.desc).map (fun d => d.parameters.length) = some 4 := by decide +kernel
theorem yd_X3_spriteColour : yX3_spriteColour.cls ≠ "java/lang/invoke/MethodHandle" ∧ yX3_spriteColour.cls ≠ "java/lang/invoke/VarHandle" ∧ (parseMethodDescriptor yX3_spriteColour.desc).map (fun d => d.parameters.length) = some 2 := by decide +kernel
theorem yd_X3_covers : yX3_covers.cls ≠ "java/lang/invoke/MethodHandle" ∧ yX3_covers.cls ≠ "java/lang/invoke/VarHandle" ∧ (parseMethodDescriptor yX3_covers.desc).map (fun d => d.parameters.length) = some 5 := by decide +kernel
theorem yd_X3_isMiddle : yX3_isMiddle.cls ≠ "java/lang/invoke/MethodHandle" ∧ yX3_isMiddle.cls ≠ "java/lang/invoke/VarHandle" ∧ (parseMethodDescriptor yX3_isMiddle.desc).map (fun d => d.parameters.length) = some 1 := by decide +kernel
theorem yd_X3_isMouth : yX3_isMouth.cls ≠ "java/lang/invoke/MethodHandle" ∧ yX3_isMouth.cls ≠ "java/lang/invoke/VarHandle" ∧ (parseMethodDescriptor yX3_isMouth.desc).map (fun d => d.parameters.length) = some 3 := by decide +kernel
theorem yd_X4_init : yX4_init.cls ≠ "java/lang/invoke/MethodHandle" ∧ yX4_init.cls ≠ "java/lang/invoke/VarHandle" ∧ (parseMethodDescriptor yX4_init.desc).map (fun d => d.parameters.length) = some 0 := by decide +kernel
theorem yd_X4_silence : yX4_silence.cls ≠ "java/lang/invoke/MethodHandle" ∧ yX4_silence.cls ≠ "java/lang/invoke/VarHandle" ∧ (parseMethodDescriptor yX4_silence.desc).map (fun d => d.parameters.length) = some 0 := by decide +kernel
theorem yd_X4_playFrame : yX4_playFrame.cls ≠ "java/lang/invoke/MethodHandle" ∧ yX4_playFrame.cls ≠ "java/lang/invoke/VarHandle" ∧ (parseMethodDescriptor yX4_playFrame.desc).map (fun d => d.parameters.length) = some 1 := by decide +kernel
theorem yd_X5_init : yX5_init.cls ≠ "java/lang/invoke/MethodHandle" ∧ yX5_init.cls ≠ "java/lang/invoke/VarHandle" ∧ (parseMethodDescriptor yX5_init.desc).map (fun d => d.parameters.length) = some 0 := by decide +kernel
theorem yd_X5_passFrame : yX5_passFrame.cls ≠ "java/lang/invoke/MethodHandle" ∧ yX5_passFrame.cls ≠ "java/lang/invoke/VarHandle" ∧ (parseMethodDescriptor yX5_passFrame.desc).map (fun d => d.parameters.length) = some 0 := by decide +kernel
theorem yd_X5_ring : yX5_ring.cls ≠ "java/lang/invoke/MethodHandle" ∧ yX5_ring.cls ≠ "java/lang/invoke/VarHandle" ∧ (parseMethodDescriptor yX5_ring.desc).map (fun d => d.parameters.length) = some 2 := by decide +kernel
theorem yd_X5_silence : yX5_silence.cls ≠ "java/lang/invoke/MethodHandle" ∧ yX5_silence.cls ≠ "java/lang/invoke/VarHandle" ∧ (parseMethodDescriptor yX5_silence.desc).map (fun d => d.parameters.length) = some 0 := by decide +kernel
theorem yd_X5_sample : yX5_sample.cls ≠ "java/lang/invoke/MethodHandle" ∧ yX5_sample.cls ≠ "java/lang/invoke/VarHandle" ∧ (parseMethodDescriptor yX5_sample.desc).map (fun d => d.parameters.length) = some 0 := by decide +kernel
theorem yd_X6_init : yX6_init.cls ≠ "java/lang/invoke/MethodHandle" ∧ yX6_init.cls ≠ "java/lang/invoke/VarHandle" ∧ (parseMethodDescriptor yX6_init.desc).map (fun d => d.parameters.length) = some 0 := by decide +kernel
theorem yd_X6_coin : yX6_coin.cls ≠ "java/lang/invoke/MethodHandle" ∧ yX6_coin.cls ≠ "java/lang/invoke/VarHandle" ∧ (parseMethodDescriptor yX6_coin.desc).map (fun d => d.parameters.length) = some 0 := by decide +kernel
theorem yd_X6_start : yX6_start.cls ≠ "java/lang/invoke/MethodHandle" ∧ yX6_start.cls ≠ "java/lang/invoke/VarHandle" ∧ (parseMethodDescriptor yX6_start.desc).map (fun d => d.parameters.length) = some 0 := by decide +kernel
theorem yd_X6_stick : yX6_stick.cls ≠ "java/lang/invoke/MethodHandle" ∧ yX6_stick.cls ≠ "java/lang/invoke/VarHandle" ∧ (parseMethodDescriptor yX6_stick.desc).map (fun d => d.parameters.length) = some 1 := by decide +kernel
theorem yd_X6_kick : yX6_kick.cls ≠ "java/lang/invoke/MethodHandle" ∧ yX6_kick.cls ≠ "java/lang/invoke/VarHandle" ∧ (parseMethodDescriptor yX6_kick.desc).map (fun d => d.parameters.length) = some 0 := by decide +kernel
theorem yd_X6_frames : yX6_frames.cls ≠ "java/lang/invoke/MethodHandle" ∧ yX6_frames.cls ≠ "java/lang/invoke/VarHandle" ∧ (parseMethodDescriptor yX6_frames.desc).map (fun d => d.parameters.length) = some 1 := by decide +kernel
theorem yd_X6_look : yX6_look.cls ≠ "java/lang/invoke/MethodHandle" ∧ yX6_look.cls ≠ "java/lang/invoke/VarHandle" ∧ (parseMethodDescriptor yX6_look.desc).map (fun d => d.parameters.length) = some 1 := by decide +kernel
theorem yd_X6_actor : yX6_actor.cls ≠ "java/lang/invoke/MethodHandle" ∧ yX6_actor.cls ≠ "java/lang/invoke/VarHandle" ∧ (parseMethodDescriptor yX6_actor.desc).map (fun d => d.parameters.length) = some 2 := by decide +kernel
theorem yd_X6_progress : yX6_progress.cls ≠ "java/lang/invoke/MethodHandle" ∧ yX6_progress.cls ≠ "java/lang/invoke/VarHandle" ∧ (parseMethodDescriptor yX6_progress.desc).map (fun d => d.parameters.length) = some 1 := by decide +kernel
theorem yd_X6_cell : yX6_cell.cls ≠ "java/lang/invoke/MethodHandle" ∧ yX6_cell.cls ≠ "java/lang/invoke/VarHandle" ∧ (parseMethodDescriptor yX6_cell.desc).map (fun d => d.parameters.length) = some 2 := by decide +kernel
theorem yd_X6_point : yX6_point.cls ≠ "java/lang/invoke/MethodHandle" ∧ yX6_point.cls ≠ "java/lang/invoke/VarHandle" ∧ (parseMethodDescriptor yX6_point.desc).map (fun d => d.parameters.length) = some 2 := by decide +kernel
theorem yd_X6_volume : yX6_volume.cls ≠ "java/lang/invoke/MethodHandle" ∧ yX6_volume.cls ≠ "java/lang/invoke/VarHandle" ∧ (parseMethodDescriptor yX6_volume.desc).map (fun d => d.parameters.length) = some 1 := by decide +kernel
theorem yd_X6_sound : yX6_sound.cls ≠ "java/lang/invoke/MethodHandle" ∧ yX6_sound.cls ≠ "java/lang/invoke/VarHandle" ∧ (parseMethodDescriptor yX6_sound.desc).map (fun d => d.parameters.length) = some 0 := by decide +kernel
theorem yd_X6_reset : yX6_reset.cls ≠ "java/lang/invoke/MethodHandle" ∧ yX6_reset.cls ≠ "java/lang/invoke/VarHandle" ∧ (parseMethodDescriptor yX6_reset.desc).map (fun d => d.parameters.length) = some 0 := by decide +kernel
theorem yd_X6_nextColumn : yX6_nextColumn.cls ≠ "java/lang/invoke/MethodHandle" ∧ yX6_nextColumn.cls ≠ "java/lang/invoke/VarHandle" ∧ (parseMethodDescriptor yX6_nextColumn.desc).map (fun d => d.parameters.length) = some 2 := by decide +kernel
theorem yd_X6_nextRow : yX6_nextRow.cls ≠ "java/lang/invoke/MethodHandle" ∧ yX6_nextRow.cls ≠ "java/lang/invoke/VarHandle" ∧ (parseMethodDescriptor yX6_nextRow.desc).map (fun d => d.parameters.length) = some 2 := by decide +kernel
theorem yd_X6_columnStep : yX6_columnStep.cls ≠ "java/lang/invoke/MethodHandle" ∧ yX6_columnStep.cls ≠ "java/lang/invoke/VarHandle" ∧ (parseMethodDescriptor yX6_columnStep.desc).map (fun d => d.parameters.length) = some 1 := by decide +kernel
theorem yd_X6_rowStep : yX6_rowStep.cls ≠ "java/lang/invoke/MethodHandle" ∧ yX6_rowStep.cls ≠ "java/lang/invoke/VarHandle" ∧ (parseMethodDescriptor yX6_rowStep.desc).map (fun d => d.parameters.length) = some 1 := by decide +kernel
theorem yd_X6_opposite : yX6_opposite.cls ≠ "java/lang/invoke/MethodHandle" ∧ yX6_opposite.cls ≠ "java/lang/invoke/VarHandle" ∧ (parseMethodDescriptor yX6_opposite.desc).map (fun d => d.parameters.length) = some 1 := by decide +kernel
theorem yd_X6_distance : yX6_distance.cls ≠ "java/lang/invoke/MethodHandle" ∧ yX6_distance.cls ≠ "java/lang/invoke/VarHandle" ∧ (parseMethodDescriptor yX6_distance.desc).map (fun d => d.parameters.length) = some 4 := by decide +kernel
theorem yd_X7_init : yX7_init.cls ≠ "java/lang/invoke/MethodHandle" ∧ yX7_init.cls ≠ "java/lang/invoke/VarHandle" ∧ (parseMethodDescriptor yX7_init.desc).map (fun d => d.parameters.length) = some 0 := by decide +kernel
theorem yd_X7_both : yX7_both.cls ≠ "java/lang/invoke/MethodHandle" ∧ yX7_both.cls ≠ "java/lang/invoke/VarHandle" ∧ (parseMethodDescriptor yX7_both.desc).map (fun d => d.parameters.length) = some 4 := by decide +kernel
theorem yd_X7_draw : yX7_draw.cls ≠ "java/lang/invoke/MethodHandle" ∧ yX7_draw.cls ≠ "java/lang/invoke/VarHandle" ∧ (parseMethodDescriptor yX7_draw.desc).map (fun d => d.parameters.length) = some 0 := by decide +kernel
theorem yd_X7_fill : yX7_fill.cls ≠ "java/lang/invoke/MethodHandle" ∧ yX7_fill.cls ≠ "java/lang/invoke/VarHandle" ∧ (parseMethodDescriptor yX7_fill.desc).map (fun d => d.parameters.length) = some 0 := by decide +kernel
theorem yd_X7_put : yX7_put.cls ≠ "java/lang/invoke/MethodHandle" ∧ yX7_put.cls ≠ "java/lang/invoke/VarHandle" ∧ (parseMethodDescriptor yX7_put.desc).map (fun d => d.parameters.length) = some 5 := by decide +kernel
theorem yd_X7_place : yX7_place.cls ≠ "java/lang/invoke/MethodHandle" ∧ yX7_place.cls ≠ "java/lang/invoke/VarHandle" ∧ (parseMethodDescriptor yX7_place.desc).map (fun d => d.parameters.length) = some 0 := by decide +kernel
theorem yd_X7_across : yX7_across.cls ≠ "java/lang/invoke/MethodHandle" ∧ yX7_across.cls ≠ "java/lang/invoke/VarHandle" ∧ (parseMethodDescriptor yX7_across.desc).map (fun d => d.parameters.length) = some 1 := by decide +kernel
theorem yd_X7_down : yX7_down.cls ≠ "java/lang/invoke/MethodHandle" ∧ yX7_down.cls ≠ "java/lang/invoke/VarHandle" ∧ (parseMethodDescriptor yX7_down.desc).map (fun d => d.parameters.length) = some 1 := by decide +kernel
theorem yd_X7_around : yX7_around.cls ≠ "java/lang/invoke/MethodHandle" ∧ yX7_around.cls ≠ "java/lang/invoke/VarHandle" ∧ (parseMethodDescriptor yX7_around.desc).map (fun d => d.parameters.length) = some 1 := by decide +kernel
theorem yd_X7_nextColumn : yX7_nextColumn.cls ≠ "java/lang/invoke/MethodHandle" ∧ yX7_nextColumn.cls ≠ "java/lang/invoke/VarHandle" ∧ (parseMethodDescriptor yX7_nextColumn.desc).map (fun d => d.parameters.length) = some 2 := by decide +kernel
theorem yd_X7_nextRow : yX7_nextRow.cls ≠ "java/lang/invoke/MethodHandle" ∧ yX7_nextRow.cls ≠ "java/lang/invoke/VarHandle" ∧ (parseMethodDescriptor yX7_nextRow.desc).map (fun d => d.parameters.length) = some 2 := by decide +kernel
theorem yd_X7_open : yX7_open.cls ≠ "java/lang/invoke/MethodHandle" ∧ yX7_open.cls ≠ "java/lang/invoke/VarHandle" ∧ (parseMethodDescriptor yX7_open.desc).map (fun d => d.parameters.length) = some 2 := by decide +kernel
theorem yd_X7_step : yX7_step.cls ≠ "java/lang/invoke/MethodHandle" ∧ yX7_step.cls ≠ "java/lang/invoke/VarHandle" ∧ (parseMethodDescriptor yX7_step.desc).map (fun d => d.parameters.length) = some 1 := by decide +kernel
theorem yd_X7_points : yX7_points.cls ≠ "java/lang/invoke/MethodHandle" ∧ yX7_points.cls ≠ "java/lang/invoke/VarHandle" ∧ (parseMethodDescriptor yX7_points.desc).map (fun d => d.parameters.length) = some 1 := by decide +kernel
theorem yd_X7_scatters : yX7_scatters.cls ≠ "java/lang/invoke/MethodHandle" ∧ yX7_scatters.cls ≠ "java/lang/invoke/VarHandle" ∧ (parseMethodDescriptor yX7_scatters.desc).map (fun d => d.parameters.length) = some 0 := by decide +kernel
theorem yd_X7_calm : yX7_calm.cls ≠ "java/lang/invoke/MethodHandle" ∧ yX7_calm.cls ≠ "java/lang/invoke/VarHandle" ∧ (parseMethodDescriptor yX7_calm.desc).map (fun d => d.parameters.length) = some 0 := by decide +kernel
theorem yd_X7_player : yX7_player.cls ≠ "java/lang/invoke/MethodHandle" ∧ yX7_player.cls ≠ "java/lang/invoke/VarHandle" ∧ (parseMethodDescriptor yX7_player.desc).map (fun d => d.parameters.length) = some 0 := by decide +kernel
theorem yd_X7_scare : yX7_scare.cls ≠ "java/lang/invoke/MethodHandle" ∧ yX7_scare.cls ≠ "java/lang/invoke/VarHandle" ∧ (parseMethodDescriptor yX7_scare.desc).map (fun d => d.parameters.length) = some 0 := by decide +kernel
theorem yd_X7_hunter : yX7_hunter.cls ≠ "java/lang/invoke/MethodHandle" ∧ yX7_hunter.cls ≠ "java/lang/invoke/VarHandle" ∧ (parseMethodDescriptor yX7_hunter.desc).map (fun d => d.parameters.length) = some 1 := by decide +kernel
theorem yd_X7_distance : yX7_distance.cls ≠ "java/lang/invoke/MethodHandle" ∧ yX7_distance.cls ≠ "java/lang/invoke/VarHandle" ∧ (parseMethodDescriptor yX7_distance.desc).map (fun d => d.parameters.length) = some 4 := by decide +kernel
theorem yd_X7_cornerColumn : yX7_cornerColumn.cls ≠ "java/lang/invoke/MethodHandle" ∧ yX7_cornerColumn.cls ≠ "java/lang/invoke/VarHandle" ∧ (parseMethodDescriptor yX7_cornerColumn.desc).map (fun d => d.parameters.length) = some 1 := by decide +kernel
theorem yd_X7_cornerRow : yX7_cornerRow.cls ≠ "java/lang/invoke/MethodHandle" ∧ yX7_cornerRow.cls ≠ "java/lang/invoke/VarHandle" ∧ (parseMethodDescriptor yX7_cornerRow.desc).map (fun d => d.parameters.length) = some 1 := by decide +kernel
theorem yd_X7_choose : yX7_choose.cls ≠ "java/lang/invoke/MethodHandle" ∧ yX7_choose.cls ≠ "java/lang/invoke/VarHandle" ∧ (parseMethodDescriptor yX7_choose.desc).map (fun d => d.parameters.length) = some 1 := by decide +kernel
theorem yd_X7_drawn : yX7_drawn.cls ≠ "java/lang/invoke/MethodHandle" ∧ yX7_drawn.cls ≠ "java/lang/invoke/VarHandle" ∧ (parseMethodDescriptor yX7_drawn.desc).map (fun d => d.parameters.length) = some 0 := by decide +kernel
theorem yd_X7_aim : yX7_aim.cls ≠ "java/lang/invoke/MethodHandle" ∧ yX7_aim.cls ≠ "java/lang/invoke/VarHandle" ∧ (parseMethodDescriptor yX7_aim.desc).map (fun d => d.parameters.length) = some 2 := by decide +kernel
theorem yd_X7_met : yX7_met.cls ≠ "java/lang/invoke/MethodHandle" ∧ yX7_met.cls ≠ "java/lang/invoke/VarHandle" ∧ (parseMethodDescriptor yX7_met.desc).map (fun d => d.parameters.length) = some 1 := by decide +kernel
theorem yd_X7_meet : yX7_meet.cls ≠ "java/lang/invoke/MethodHandle" ∧ yX7_meet.cls ≠ "java/lang/invoke/VarHandle" ∧ (parseMethodDescriptor yX7_meet.desc).map (fun d => d.parameters.length) = some 0 := by decide +kernel
theorem yd_X7_left : yX7_left.cls ≠ "java/lang/invoke/MethodHandle" ∧ yX7_left.cls ≠ "java/lang/invoke/VarHandle" ∧ (parseMethodDescriptor yX7_left.desc).map (fun d => d.parameters.length) = some 0 := by decide +kernel
theorem yd_X7_play : yX7_play.cls ≠ "java/lang/invoke/MethodHandle" ∧ yX7_play.cls ≠ "java/lang/invoke/VarHandle" ∧ (parseMethodDescriptor yX7_play.desc).map (fun d => d.parameters.length) = some 0 := by decide +kernel
theorem yd_X7_voice : yX7_voice.cls ≠ "java/lang/invoke/MethodHandle" ∧ yX7_voice.cls ≠ "java/lang/invoke/VarHandle" ∧ (parseMethodDescriptor yX7_voice.desc).map (fun d => d.parameters.length) = some 3 := by decide +kernel
theorem yd_X7_hear : yX7_hear.cls ≠ "java/lang/invoke/MethodHandle" ∧ yX7_hear.cls ≠ "java/lang/invoke/VarHandle" ∧ (parseMethodDescriptor yX7_hear.desc).map (fun d => d.parameters.length) = some 0 := by decide +kernel
theorem yd_X7_frame : yX7_frame.cls ≠ "java/lang/invoke/MethodHandle" ∧ yX7_frame.cls ≠ "java/lang/invoke/VarHandle" ∧ (parseMethodDescriptor yX7_frame.desc).map (fun d => d.parameters.length) = some 0 := by decide +kernel
theorem yd_X7_reset : yX7_reset.cls ≠ "java/lang/invoke/MethodHandle" ∧ yX7_reset.cls ≠ "java/lang/invoke/VarHandle" ∧ (parseMethodDescriptor yX7_reset.desc).map (fun d => d.parameters.length) = some 0 := by decide +kernel
theorem yd_X7_coin : yX7_coin.cls ≠ "java/lang/invoke/MethodHandle" ∧ yX7_coin.cls ≠ "java/lang/invoke/VarHandle" ∧ (parseMethodDescriptor yX7_coin.desc).map (fun d => d.parameters.length) = some 0 := by decide +kernel
theorem yd_X7_start : yX7_start.cls ≠ "java/lang/invoke/MethodHandle" ∧ yX7_start.cls ≠ "java/lang/invoke/VarHandle" ∧ (parseMethodDescriptor yX7_start.desc).map (fun d => d.parameters.length) = some 0 := by decide +kernel
theorem yd_X7_stick : yX7_stick.cls ≠ "java/lang/invoke/MethodHandle" ∧ yX7_stick.cls ≠ "java/lang/invoke/VarHandle" ∧ (parseMethodDescriptor yX7_stick.desc).map (fun d => d.parameters.length) = some 1 := by decide +kernel
theorem yd_X7_kick : yX7_kick.cls ≠ "java/lang/invoke/MethodHandle" ∧ yX7_kick.cls ≠ "java/lang/invoke/VarHandle" ∧ (parseMethodDescriptor yX7_kick.desc).map (fun d => d.parameters.length) = some 0 := by decide +kernel
theorem yd_X7_frames : yX7_frames.cls ≠ "java/lang/invoke/MethodHandle" ∧ yX7_frames.cls ≠ "java/lang/invoke/VarHandle" ∧ (parseMethodDescriptor yX7_frames.desc).map (fun d => d.parameters.length) = some 1 := by decide +kernel
theorem yd_X7_look : yX7_look.cls ≠ "java/lang/invoke/MethodHandle" ∧ yX7_look.cls ≠ "java/lang/invoke/VarHandle" ∧ (parseMethodDescriptor yX7_look.desc).map (fun d => d.parameters.length) = some 1 := by decide +kernel
theorem yd_X7_actor : yX7_actor.cls ≠ "java/lang/invoke/MethodHandle" ∧ yX7_actor.cls ≠ "java/lang/invoke/VarHandle" ∧ (parseMethodDescriptor yX7_actor.desc).map (fun d => d.parameters.length) = some 2 := by decide +kernel
theorem yd_X7_progress : yX7_progress.cls ≠ "java/lang/invoke/MethodHandle" ∧ yX7_progress.cls ≠ "java/lang/invoke/VarHandle" ∧ (parseMethodDescriptor yX7_progress.desc).map (fun d => d.parameters.length) = some 1 := by decide +kernel
theorem yd_X7_cell : yX7_cell.cls ≠ "java/lang/invoke/MethodHandle" ∧ yX7_cell.cls ≠ "java/lang/invoke/VarHandle" ∧ (parseMethodDescriptor yX7_cell.desc).map (fun d => d.parameters.length) = some 2 := by decide +kernel
theorem yd_X7_sprite : yX7_sprite.cls ≠ "java/lang/invoke/MethodHandle" ∧ yX7_sprite.cls ≠ "java/lang/invoke/VarHandle" ∧ (parseMethodDescriptor yX7_sprite.desc).map (fun d => d.parameters.length) = some 3 := by decide +kernel
theorem yd_X7_point : yX7_point.cls ≠ "java/lang/invoke/MethodHandle" ∧ yX7_point.cls ≠ "java/lang/invoke/VarHandle" ∧ (parseMethodDescriptor yX7_point.desc).map (fun d => d.parameters.length) = some 2 := by decide +kernel
theorem yd_X7_volume : yX7_volume.cls ≠ "java/lang/invoke/MethodHandle" ∧ yX7_volume.cls ≠ "java/lang/invoke/VarHandle" ∧ (parseMethodDescriptor yX7_volume.desc).map (fun d => d.parameters.length) = some 1 := by decide +kernel
theorem yd_X7_sound : yX7_sound.cls ≠ "java/lang/invoke/MethodHandle" ∧ yX7_sound.cls ≠ "java/lang/invoke/VarHandle" ∧ (parseMethodDescriptor yX7_sound.desc).map (fun d => d.parameters.length) = some 0 := by decide +kernel
theorem yd_J9_floorMod_7cf53 : yJ9_floorMod_7cf53.cls ≠ "java/lang/invoke/MethodHandle" ∧ yJ9_floorMod_7cf53.cls ≠ "java/lang/invoke/VarHandle" ∧ (parseMethodDescriptor yJ9_floorMod_7cf53.desc).map (fun d => d.parameters.length) = some 2 := by decide +kernel
theorem yd_J9_max_7cf53 : yJ9_max_7cf53.cls ≠ "java/lang/invoke/MethodHandle" ∧ yJ9_max_7cf53.cls ≠ "java/lang/invoke/VarHandle" ∧ (parseMethodDescriptor yJ9_max_7cf53.desc).map (fun d => d.parameters.length) = some 2 := by decide +kernel
theorem yd_J9_min_7cf53 : yJ9_min_7cf53.cls ≠ "java/lang/invoke/MethodHandle" ∧ yJ9_min_7cf53.cls ≠ "java/lang/invoke/VarHandle" ∧ (parseMethodDescriptor yJ9_min_7cf53.desc).map (fun d => d.parameters.length) = some 2 := by decide +kernel
end
