set_option maxHeartbeats 4000000 in
set_option maxRecDepth 100000 in
theorem c_X6_columnStep (l : Launch) (D : va_G) (cy ad : Nat → Nat) (L : List Nat) (sz : Nat) (M : Mem) (a1 : Int32) : Met l yX6_columnStep (Cond.code yX6_columnStep cX6_columnStep 1 (some .int) :: BG) ({ frames := 0, cells := 0, slots := 0, locals := 0 }) (va_Pc [.int a1] (PW D cy ad L M sz)) (va_Qi (fun r N => r = sp_X6_columnStep a1 ∧ N = M) (OW D cy ad L sz) (fA ad L sz)) 0 0 (fA ad L sz) := by
  refine q_start (by decide) (Nat.le_of_ble_eq_true rfl) (fun p e s m below meth c H locs ls hsz hx hb hr hlocks hml hown hB hK hE hC hl => ?_)
  subst hsz
  have hown : s.vm.findClass "MazeBoard" = some m.cls := hown
  have hl : lv_has ls 1 [(0, .int a1)] := hl
  have J19 : ∀ (x1 : Int32) (H : Heap) (locs : List Loc) (ls : Array Slot) (hT : sp_X6_columnStep a1 = sp_X6_columnStep_B19 x1) (hC : Cx D cy ad R0 L (fA ad L s.heap.size) s M H locs) (hl : lv_has ls 1 []), W p l e ({ frames := 0, cells := 0, slots := 0, locals := 0 }) s m ([.int a1] : List Value).toArray below meth c H locs 0 0 (MQ below (va_Qi (fun r N => r = sp_X6_columnStep a1 ∧ N = M) (OW D cy ad L s.heap.size) (fA ad L s.heap.size)) ([.int a1] : List Value).toArray s 0 0 (fA ad L s.heap.size)) (F0 m 19 ls [.int x1]) := by
    intro x1 H locs ls  hT hC hl
    have hT : sp_X6_columnStep a1 = x1 := hT
    exact q_reti hx hb hr hlocks hC ⟨hT.symm, rfl⟩ dX6_columnStep_19
  have hT : sp_X6_columnStep a1 = if a1 = 1 then (sp_X6_columnStep_B19 (-1)) else (if a1 = 3 then (sp_X6_columnStep_B19 1) else (sp_X6_columnStep_B19 0)) := rfl
  refine lv_iload_n hx hb dX6_columnStep_0 rfl (lv_at hl 0 rfl) ?_
  refine lv_iconst (v := 1) hx hb dX6_columnStep_1 (by decide) ?_
  refine lv_icmp_ne (tgt := 9) hx hb dX6_columnStep_2 (by decide) (fun c2 => ?_) (fun c2 => ?_)
  · have hT : sp_X6_columnStep a1 = if a1 = 3 then (sp_X6_columnStep_B19 1) else (sp_X6_columnStep_B19 0) := hT.trans (if_neg c2)
    refine lv_iload_n hx hb dX6_columnStep_9 rfl (lv_at hl 0 rfl) ?_
    refine lv_iconst (v := 3) hx hb dX6_columnStep_10 (by decide) ?_
    refine lv_icmp_ne (tgt := 18) hx hb dX6_columnStep_11 (by decide) (fun c11 => ?_) (fun c11 => ?_)
    · have hT : sp_X6_columnStep a1 = sp_X6_columnStep_B19 0 := hT.trans (if_neg c11)
      refine lv_iconst (v := 0) hx hb dX6_columnStep_18 (by decide) ?_
      exact J19 0 _ _ _  hT hC (lv_sub hl [] rfl)
    · have hT : sp_X6_columnStep a1 = sp_X6_columnStep_B19 1 := hT.trans (if_pos c11)
      refine lv_iconst (v := 1) hx hb dX6_columnStep_14 (by decide) ?_
      refine lv_goto (tgt := 19) hx hb dX6_columnStep_15 (by decide) ?_
      exact J19 1 _ _ _  hT hC (lv_sub hl [] rfl)
  · have hT : sp_X6_columnStep a1 = sp_X6_columnStep_B19 (-1) := hT.trans (if_pos c2)
    refine lv_iconst (v := (-1)) hx hb dX6_columnStep_5 (by decide) ?_
    refine lv_goto (tgt := 19) hx hb dX6_columnStep_6 (by decide) ?_
    exact J19 (-1) _ _ _  hT hC (lv_sub hl [] rfl)
set_option maxHeartbeats 4000000 in
set_option maxRecDepth 100000 in
theorem c_X6_rowStep (l : Launch) (D : va_G) (cy ad : Nat → Nat) (L : List Nat) (sz : Nat) (M : Mem) (a1 : Int32) : Met l yX6_rowStep (Cond.code yX6_rowStep cX6_rowStep 1 (some .int) :: BG) ({ frames := 0, cells := 0, slots := 0, locals := 0 }) (va_Pc [.int a1] (PW D cy ad L M sz)) (va_Qi (fun r N => r = sp_X6_rowStep a1 ∧ N = M) (OW D cy ad L sz) (fA ad L sz)) 0 0 (fA ad L sz) := by
  refine q_start (by decide) (Nat.le_of_ble_eq_true rfl) (fun p e s m below meth c H locs ls hsz hx hb hr hlocks hml hown hB hK hE hC hl => ?_)
  subst hsz
  have hown : s.vm.findClass "MazeBoard" = some m.cls := hown
  have hl : lv_has ls 1 [(0, .int a1)] := hl
  have J18 : ∀ (x1 : Int32) (H : Heap) (locs : List Loc) (ls : Array Slot) (hT : sp_X6_rowStep a1 = sp_X6_rowStep_B18 x1) (hC : Cx D cy ad R0 L (fA ad L s.heap.size) s M H locs) (hl : lv_has ls 1 []), W p l e ({ frames := 0, cells := 0, slots := 0, locals := 0 }) s m ([.int a1] : List Value).toArray below meth c H locs 0 0 (MQ below (va_Qi (fun r N => r = sp_X6_rowStep a1 ∧ N = M) (OW D cy ad L s.heap.size) (fA ad L s.heap.size)) ([.int a1] : List Value).toArray s 0 0 (fA ad L s.heap.size)) (F0 m 18 ls [.int x1]) := by
    intro x1 H locs ls  hT hC hl
    have hT : sp_X6_rowStep a1 = x1 := hT
    exact q_reti hx hb hr hlocks hC ⟨hT.symm, rfl⟩ dX6_rowStep_18
  have hT : sp_X6_rowStep a1 = if a1 = 0 then (sp_X6_rowStep_B18 (-1)) else (if a1 = 2 then (sp_X6_rowStep_B18 1) else (sp_X6_rowStep_B18 0)) := rfl
  refine lv_iload_n hx hb dX6_rowStep_0 rfl (lv_at hl 0 rfl) ?_
  refine lv_if_ne (tgt := 8) hx hb dX6_rowStep_1 (by decide) (fun c1 => ?_) (fun c1 => ?_)
  · have hT : sp_X6_rowStep a1 = if a1 = 2 then (sp_X6_rowStep_B18 1) else (sp_X6_rowStep_B18 0) := hT.trans (if_neg c1)
    refine lv_iload_n hx hb dX6_rowStep_8 rfl (lv_at hl 0 rfl) ?_
    refine lv_iconst (v := 2) hx hb dX6_rowStep_9 (by decide) ?_
    refine lv_icmp_ne (tgt := 17) hx hb dX6_rowStep_10 (by decide) (fun c10 => ?_) (fun c10 => ?_)
    · have hT : sp_X6_rowStep a1 = sp_X6_rowStep_B18 0 := hT.trans (if_neg c10)
      refine lv_iconst (v := 0) hx hb dX6_rowStep_17 (by decide) ?_
      exact J18 0 _ _ _  hT hC (lv_sub hl [] rfl)
    · have hT : sp_X6_rowStep a1 = sp_X6_rowStep_B18 1 := hT.trans (if_pos c10)
      refine lv_iconst (v := 1) hx hb dX6_rowStep_13 (by decide) ?_
      refine lv_goto (tgt := 18) hx hb dX6_rowStep_14 (by decide) ?_
      exact J18 1 _ _ _  hT hC (lv_sub hl [] rfl)
  · have hT : sp_X6_rowStep a1 = sp_X6_rowStep_B18 (-1) := hT.trans (if_pos c1)
    refine lv_iconst (v := (-1)) hx hb dX6_rowStep_4 (by decide) ?_
    refine lv_goto (tgt := 18) hx hb dX6_rowStep_5 (by decide) ?_
    exact J18 (-1) _ _ _  hT hC (lv_sub hl [] rfl)
set_option maxHeartbeats 4000000 in
set_option maxRecDepth 100000 in
theorem c_X1_aimAtPlayer (l : Launch) (D : va_G) (cy ad : Nat → Nat) (L : List Nat) (sz : Nat) (hL : lr 1 9 L) (M : Mem) (b1 : Nat) (hb1 : isA b1) (a2 : Int32) : Met l yX1_aimAtPlayer (Cond.code yX1_aimAtPlayer cX1_aimAtPlayer 5 (none) :: BG) ({ frames := 1, cells := 0, slots := 0, locals := 22 }) (va_Pc [.ref (ad 1), .ref (ad b1), .int a2] (PW D cy ad L M sz)) (va_Qv (fun N => N = sp_X1_aimAtPlayer M b1 a2) (OW D cy ad L sz) (fA ad L sz)) 0 0 (fA ad L sz) := by
  refine q_start (by decide) (Nat.le_of_ble_eq_true rfl) (fun p e s m below meth c H locs ls hsz hx hb hr hlocks hml hown hB hK hE hC hl => ?_)
  subst hsz
  have hown : s.vm.findClass "MazeBoard$Game" = some m.cls := hown
  have hl : lv_has ls 5 [(0, .ref (ad 1)), (1, .ref (ad b1)), (2, .int a2)] := hl
  have J131 : ∀ (M6 : Mem) (H : Heap) (locs : List Loc) (ls : Array Slot) (hT : sp_X1_aimAtPlayer M b1 a2 = sp_X1_aimAtPlayer_B131 M6) (hC : Cx D cy ad R0 L (fA ad L s.heap.size) s M6 H locs) (hl : lv_has ls 5 []), W p l e ({ frames := 1, cells := 0, slots := 0, locals := 22 }) s m ([.ref (ad 1), .ref (ad b1), .int a2] : List Value).toArray below meth c H locs 0 0 (MQ below (va_Qv (fun N => N = sp_X1_aimAtPlayer M b1 a2) (OW D cy ad L s.heap.size) (fA ad L s.heap.size)) ([.ref (ad 1), .ref (ad b1), .int a2] : List Value).toArray s 0 0 (fA ad L s.heap.size)) (F0 m 131 ls []) := by
    intro M6 H locs ls  hT hC hl
    have hT : sp_X1_aimAtPlayer M b1 a2 = M6 := hT
    exact q_retv hx hb hr hlocks hC hT.symm dX1_aimAtPlayer_131
  have hT : sp_X1_aimAtPlayer M b1 a2 = sp_X1_aimAtPlayer_n5 M b1 a2 (sp_X6_columnStep (gI M 5 2)) := rfl
  refine lv_aload_n hx hb dX1_aimAtPlayer_0 rfl (lv_at hl 0 rfl) ?_
  refine q_getr (T := TX1) hx hb hB uw_X1 hown hK hC rfl (hL 1 (by decide) (by decide)) rfl 2 (by decide) rfl rfl (hB _ mw_1_131) dX1_aimAtPlayer_1 ?_
  refine q_geti (T := TX0) hx hb hB uw_X0 hown hK hC rfl (hL 5 (by decide) (by decide)) rfl 2 (by decide) rfl (hB _ mw_1_60) dX1_aimAtPlayer_4 ?_
  refine q_Ci (q_N (own := "MazeBoard$Game") (y := yX6_columnStep) (As := [.int (gI M 5 2)]) (rest := []) ⟨hx, hb, hml, hown, hB⟩ hK hE hC (c_X6_columnStep l D cy ad L H.size M (gI M 5 2)) (nw_X1_229 hE.2) mw_2_134 mw_1_1 mw_2_135 yd_X6_columnStep ⟨rfl, rfl⟩ ⟨Nat.le_of_ble_eq_true rfl, Nat.le_of_ble_eq_true rfl⟩ rfl hl.1 rfl (Nat.le_of_ble_eq_true rfl) dX1_aimAtPlayer_7 ⟨Nat.le_refl _, Nat.le_refl _⟩) hC (fun r N_ H locs hp hC => ?_)
  obtain ⟨hr_, hM_⟩ := hp
  subst hr_
  rw [hM_] at hC
  refine lv_topi (fun x1 ex1 => ?_)
  have hT : sp_X1_aimAtPlayer M b1 a2 = sp_X1_aimAtPlayer_n5 M b1 a2 x1 := by rw [ex1]; exact hT
  refine lv_istore_n (lv' := [(3, .int x1), (0, .ref (ad 1)), (1, .ref (ad b1)), (2, .int a2)]) hx hb dX1_aimAtPlayer_10 rfl hl (by decide) rfl (fun ls hl => ?_)
  refine lv_aload_n hx hb dX1_aimAtPlayer_11 rfl (lv_at hl 1 rfl) ?_
  refine q_getr (T := TX1) hx hb hB uw_X1 hown hK hC rfl (hL 1 (by decide) (by decide)) rfl 2 (by decide) rfl rfl (hB _ mw_1_131) dX1_aimAtPlayer_12 ?_
  refine q_geti (T := TX0) hx hb hB uw_X0 hown hK hC rfl (hL 5 (by decide) (by decide)) rfl 2 (by decide) rfl (hB _ mw_1_60) dX1_aimAtPlayer_15 ?_
  refine q_Ci (q_N (own := "MazeBoard$Game") (y := yX6_rowStep) (As := [.int (gI M 5 2)]) (rest := []) ⟨hx, hb, hml, hown, hB⟩ hK hE hC (c_X6_rowStep l D cy ad L H.size M (gI M 5 2)) (nw_X1_232 hE.2) mw_2_137 mw_1_1 mw_2_138 yd_X6_rowStep ⟨rfl, rfl⟩ ⟨Nat.le_of_ble_eq_true rfl, Nat.le_of_ble_eq_true rfl⟩ rfl hl.1 rfl (Nat.le_of_ble_eq_true rfl) dX1_aimAtPlayer_18 ⟨Nat.le_refl _, Nat.le_refl _⟩) hC (fun r N_ H locs hp hC => ?_)
  obtain ⟨hr_, hM_⟩ := hp
  subst hr_
  rw [hM_] at hC
  refine lv_topi (fun x2 ex2 => ?_)
  have hT : sp_X1_aimAtPlayer M b1 a2 = sp_X1_aimAtPlayer_n4 M b1 a2 x1 x2 := by rw [ex2]; exact hT
  refine lv_istore (lv' := [(4, .int x2), (3, .int x1), (0, .ref (ad 1)), (1, .ref (ad b1)), (2, .int a2)]) hx hb dX1_aimAtPlayer_21 hl (by decide) rfl (fun ls hl => ?_)
  refine lv_iload_n hx hb dX1_aimAtPlayer_23 rfl (lv_at hl 4 rfl) ?_
  refine lv_iconst (v := 2) hx hb dX1_aimAtPlayer_24 (by decide) ?_
  refine lv_icmp_ne (tgt := 58) hx hb dX1_aimAtPlayer_25 (by decide) (fun c25 => ?_) (fun c25 => ?_)
  · have hT : sp_X1_aimAtPlayer M b1 a2 = if a2 = 3 then (sp_X1_aimAtPlayer_n2 (sp_X0_aimAt M b1 ((2 * ((gI M 5 0) + x1)) - (gI M 6 0)) ((2 * ((gI M 5 1) + x2)) - (gI M 6 1)))) else (sp_X1_aimAtPlayer_n3 (sp_X0_aimAt M b1 (gI M 5 0) (gI M 5 1))) := hT.trans (if_neg c25)
    refine lv_iload_n hx hb dX1_aimAtPlayer_58 rfl (lv_at hl 4 rfl) ?_
    refine lv_iconst (v := 3) hx hb dX1_aimAtPlayer_59 (by decide) ?_
    refine lv_icmp_ne (tgt := 113) hx hb dX1_aimAtPlayer_60 (by decide) (fun c60 => ?_) (fun c60 => ?_)
    · have hT : sp_X1_aimAtPlayer M b1 a2 = sp_X1_aimAtPlayer_n3 (sp_X0_aimAt M b1 (gI M 5 0) (gI M 5 1)) := hT.trans (if_neg c60)
      refine lv_aload_n hx hb dX1_aimAtPlayer_113 rfl (lv_at hl 3 rfl) ?_
      refine lv_aload_n hx hb dX1_aimAtPlayer_114 rfl (lv_at hl 2 rfl) ?_
      refine q_getr (T := TX1) hx hb hB uw_X1 hown hK hC rfl (hL 1 (by decide) (by decide)) rfl 2 (by decide) rfl rfl (hB _ mw_1_131) dX1_aimAtPlayer_115 ?_
      refine q_geti (T := TX0) hx hb hB uw_X0 hown hK hC rfl (hL 5 (by decide) (by decide)) rfl 0 (by decide) rfl (hB _ mw_1_51) dX1_aimAtPlayer_118 ?_
      refine lv_aload_n hx hb dX1_aimAtPlayer_121 rfl (lv_at hl 2 rfl) ?_
      refine q_getr (T := TX1) hx hb hB uw_X1 hown hK hC rfl (hL 1 (by decide) (by decide)) rfl 2 (by decide) rfl rfl (hB _ mw_1_131) dX1_aimAtPlayer_122 ?_
      refine q_geti (T := TX0) hx hb hB uw_X0 hown hK hC rfl (hL 5 (by decide) (by decide)) rfl 1 (by decide) rfl (hB _ mw_1_56) dX1_aimAtPlayer_125 ?_
      refine q_Cv (q_V (own := "MazeBoard$Game") (y := yX0_aimAt) (As := [.int (gI M 5 0), .int (gI M 5 1)]) (rest := []) ⟨hx, hb, hml, hown, hB⟩ hK hE hC (c_X0_aimAt l D cy ad L H.size (hL.sub (by decide) (by decide)) M b1 hb1 (gI M 5 0) (gI M 5 1)) (isA.sh hb1) (hL _ (Nat.le_trans (by decide) (hb1).1) (Nat.le_trans (hb1).2 (by decide))) rfl mw_2_114 mw_2_115 mw_2_116 mw_1_4 mw_2_117 rfl yd_X0_aimAt ⟨rfl, rfl⟩ ⟨Nat.le_of_ble_eq_true rfl, Nat.le_of_ble_eq_true rfl⟩ rfl hl.1 rfl (Nat.le_of_ble_eq_true rfl) dX1_aimAtPlayer_128 ⟨Nat.le_refl _, Nat.le_refl _⟩) hC (fun M3 H locs eM3 hC => ?_)
      have hT : sp_X1_aimAtPlayer M b1 a2 = sp_X1_aimAtPlayer_n3 M3 := by rw [eM3]; exact hT
      exact J131 M3 _ _ _  hT hC (lv_sub hl [] rfl)
    · have hT : sp_X1_aimAtPlayer M b1 a2 = sp_X1_aimAtPlayer_n2 (sp_X0_aimAt M b1 ((2 * ((gI M 5 0) + x1)) - (gI M 6 0)) ((2 * ((gI M 5 1) + x2)) - (gI M 6 1))) := hT.trans (if_pos c60)
      refine lv_aload_n hx hb dX1_aimAtPlayer_63 rfl (lv_at hl 3 rfl) ?_
      refine lv_iconst (v := 2) hx hb dX1_aimAtPlayer_64 (by decide) ?_
      refine lv_aload_n hx hb dX1_aimAtPlayer_65 rfl (lv_at hl 2 rfl) ?_
      refine q_getr (T := TX1) hx hb hB uw_X1 hown hK hC rfl (hL 1 (by decide) (by decide)) rfl 2 (by decide) rfl rfl (hB _ mw_1_131) dX1_aimAtPlayer_66 ?_
      refine q_geti (T := TX0) hx hb hB uw_X0 hown hK hC rfl (hL 5 (by decide) (by decide)) rfl 0 (by decide) rfl (hB _ mw_1_51) dX1_aimAtPlayer_69 ?_
      refine lv_iload_n hx hb dX1_aimAtPlayer_72 rfl (lv_at hl 1 rfl) ?_
      refine lv_iadd hx hb dX1_aimAtPlayer_73 ?_
      refine lv_imul hx hb dX1_aimAtPlayer_74 ?_
      refine lv_aload_n hx hb dX1_aimAtPlayer_75 rfl (lv_at hl 2 rfl) ?_
      refine q_getr (T := TX1) hx hb hB uw_X1 hown hK hC rfl (hL 1 (by decide) (by decide)) rfl 1 (by decide) rfl rfl (hB _ mw_1_129) dX1_aimAtPlayer_76 ?_
      refine lv_iconst (v := 1) hx hb dX1_aimAtPlayer_79 (by decide) ?_
      refine q_aald (j := 6) hx hb hK hC rfl (hL 4 (by decide) (by decide)) rfl (by unfold vp_in; decide) (by decide) dX1_aimAtPlayer_80 ?_
      refine q_geti (T := TX0) hx hb hB uw_X0 hown hK hC rfl (hL 6 (by decide) (by decide)) rfl 0 (by decide) rfl (hB _ mw_1_51) dX1_aimAtPlayer_81 ?_
      refine lv_isub hx hb dX1_aimAtPlayer_84 ?_
      refine lv_iconst (v := 2) hx hb dX1_aimAtPlayer_85 (by decide) ?_
      refine lv_aload_n hx hb dX1_aimAtPlayer_86 rfl (lv_at hl 2 rfl) ?_
      refine q_getr (T := TX1) hx hb hB uw_X1 hown hK hC rfl (hL 1 (by decide) (by decide)) rfl 2 (by decide) rfl rfl (hB _ mw_1_131) dX1_aimAtPlayer_87 ?_
      refine q_geti (T := TX0) hx hb hB uw_X0 hown hK hC rfl (hL 5 (by decide) (by decide)) rfl 1 (by decide) rfl (hB _ mw_1_56) dX1_aimAtPlayer_90 ?_
      refine lv_iload hx hb dX1_aimAtPlayer_93 (lv_at hl 0 rfl) ?_
      refine lv_iadd hx hb dX1_aimAtPlayer_95 ?_
      refine lv_imul hx hb dX1_aimAtPlayer_96 ?_
      refine lv_aload_n hx hb dX1_aimAtPlayer_97 rfl (lv_at hl 2 rfl) ?_
      refine q_getr (T := TX1) hx hb hB uw_X1 hown hK hC rfl (hL 1 (by decide) (by decide)) rfl 1 (by decide) rfl rfl (hB _ mw_1_129) dX1_aimAtPlayer_98 ?_
      refine lv_iconst (v := 1) hx hb dX1_aimAtPlayer_101 (by decide) ?_
      refine q_aald (j := 6) hx hb hK hC rfl (hL 4 (by decide) (by decide)) rfl (by unfold vp_in; decide) (by decide) dX1_aimAtPlayer_102 ?_
      refine q_geti (T := TX0) hx hb hB uw_X0 hown hK hC rfl (hL 6 (by decide) (by decide)) rfl 1 (by decide) rfl (hB _ mw_1_56) dX1_aimAtPlayer_103 ?_
      refine lv_isub hx hb dX1_aimAtPlayer_106 ?_
      refine q_Cv (q_V (own := "MazeBoard$Game") (y := yX0_aimAt) (As := [.int ((2 * ((gI M 5 0) + x1)) - (gI M 6 0)), .int ((2 * ((gI M 5 1) + x2)) - (gI M 6 1))]) (rest := []) ⟨hx, hb, hml, hown, hB⟩ hK hE hC (c_X0_aimAt l D cy ad L H.size (hL.sub (by decide) (by decide)) M b1 hb1 ((2 * ((gI M 5 0) + x1)) - (gI M 6 0)) ((2 * ((gI M 5 1) + x2)) - (gI M 6 1))) (isA.sh hb1) (hL _ (Nat.le_trans (by decide) (hb1).1) (Nat.le_trans (hb1).2 (by decide))) rfl mw_2_114 mw_2_115 mw_2_116 mw_1_4 mw_2_117 rfl yd_X0_aimAt ⟨rfl, rfl⟩ ⟨Nat.le_of_ble_eq_true rfl, Nat.le_of_ble_eq_true rfl⟩ rfl hl.1 rfl (Nat.le_of_ble_eq_true rfl) dX1_aimAtPlayer_107 ⟨Nat.le_refl _, Nat.le_refl _⟩) hC (fun M4 H locs eM4 hC => ?_)
      have hT : sp_X1_aimAtPlayer M b1 a2 = sp_X1_aimAtPlayer_n2 M4 := by rw [eM4]; exact hT
      refine lv_goto (tgt := 131) hx hb dX1_aimAtPlayer_110 (by decide) ?_
      exact J131 M4 _ _ _  hT hC (lv_sub hl [] rfl)
  · have hT : sp_X1_aimAtPlayer M b1 a2 = sp_X1_aimAtPlayer_n1 (sp_X0_aimAt M b1 ((gI M 5 0) + (2 * x1)) ((gI M 5 1) + (2 * x2))) := hT.trans (if_pos c25)
    refine lv_aload_n hx hb dX1_aimAtPlayer_28 rfl (lv_at hl 3 rfl) ?_
    refine lv_aload_n hx hb dX1_aimAtPlayer_29 rfl (lv_at hl 2 rfl) ?_
    refine q_getr (T := TX1) hx hb hB uw_X1 hown hK hC rfl (hL 1 (by decide) (by decide)) rfl 2 (by decide) rfl rfl (hB _ mw_1_131) dX1_aimAtPlayer_30 ?_
    refine q_geti (T := TX0) hx hb hB uw_X0 hown hK hC rfl (hL 5 (by decide) (by decide)) rfl 0 (by decide) rfl (hB _ mw_1_51) dX1_aimAtPlayer_33 ?_
    refine lv_iconst (v := 2) hx hb dX1_aimAtPlayer_36 (by decide) ?_
    refine lv_iload_n hx hb dX1_aimAtPlayer_37 rfl (lv_at hl 1 rfl) ?_
    refine lv_imul hx hb dX1_aimAtPlayer_38 ?_
    refine lv_iadd hx hb dX1_aimAtPlayer_39 ?_
    refine lv_aload_n hx hb dX1_aimAtPlayer_40 rfl (lv_at hl 2 rfl) ?_
    refine q_getr (T := TX1) hx hb hB uw_X1 hown hK hC rfl (hL 1 (by decide) (by decide)) rfl 2 (by decide) rfl rfl (hB _ mw_1_131) dX1_aimAtPlayer_41 ?_
    refine q_geti (T := TX0) hx hb hB uw_X0 hown hK hC rfl (hL 5 (by decide) (by decide)) rfl 1 (by decide) rfl (hB _ mw_1_56) dX1_aimAtPlayer_44 ?_
    refine lv_iconst (v := 2) hx hb dX1_aimAtPlayer_47 (by decide) ?_
    refine lv_iload hx hb dX1_aimAtPlayer_48 (lv_at hl 0 rfl) ?_
    refine lv_imul hx hb dX1_aimAtPlayer_50 ?_
    refine lv_iadd hx hb dX1_aimAtPlayer_51 ?_
    refine q_Cv (q_V (own := "MazeBoard$Game") (y := yX0_aimAt) (As := [.int ((gI M 5 0) + (2 * x1)), .int ((gI M 5 1) + (2 * x2))]) (rest := []) ⟨hx, hb, hml, hown, hB⟩ hK hE hC (c_X0_aimAt l D cy ad L H.size (hL.sub (by decide) (by decide)) M b1 hb1 ((gI M 5 0) + (2 * x1)) ((gI M 5 1) + (2 * x2))) (isA.sh hb1) (hL _ (Nat.le_trans (by decide) (hb1).1) (Nat.le_trans (hb1).2 (by decide))) rfl mw_2_114 mw_2_115 mw_2_116 mw_1_4 mw_2_117 rfl yd_X0_aimAt ⟨rfl, rfl⟩ ⟨Nat.le_of_ble_eq_true rfl, Nat.le_of_ble_eq_true rfl⟩ rfl hl.1 rfl (Nat.le_of_ble_eq_true rfl) dX1_aimAtPlayer_52 ⟨Nat.le_refl _, Nat.le_refl _⟩) hC (fun M5 H locs eM5 hC => ?_)
    have hT : sp_X1_aimAtPlayer M b1 a2 = sp_X1_aimAtPlayer_n1 M5 := by rw [eM5]; exact hT
    refine lv_goto (tgt := 131) hx hb dX1_aimAtPlayer_55 (by decide) ?_
    exact J131 M5 _ _ _  hT hC (lv_sub hl [] rfl)
set_option maxHeartbeats 4000000 in
set_option maxRecDepth 100000 in
theorem c_X1_isNearPlayer (l : Launch) (D : va_G) (cy ad : Nat → Nat) (L : List Nat) (sz : Nat) (hL : lr 1 9 L) (M : Mem) (b1 : Nat) (hb1 : isA b1) (hV : vc_X1_isNearPlayer M b1) : Met l yX1_isNearPlayer (Cond.code yX1_isNearPlayer cX1_isNearPlayer 2 (some .boolean) :: BG) ({ frames := 1, cells := 0, slots := 0, locals := 25 }) (va_Pc [.ref (ad 1), .ref (ad b1)] (PW D cy ad L M sz)) (va_Qi (fun r N => r = sp_X1_isNearPlayer M b1 ∧ N = M) (OW D cy ad L sz) (fA ad L sz)) 0 0 (fA ad L sz) := by
  refine q_start (by decide) (Nat.le_of_ble_eq_true rfl) (fun p e s m below meth c H locs ls hsz hx hb hr hlocks hml hown hB hK hE hC hl => ?_)
  subst hsz
  have hown : s.vm.findClass "MazeBoard$Game" = some m.cls := hown
  have hl : lv_has ls 2 [(0, .ref (ad 1)), (1, .ref (ad b1))] := hl
  have J35 : ∀ (x1 : Int32) (H : Heap) (locs : List Loc) (ls : Array Slot) (hT : sp_X1_isNearPlayer M b1 = sp_X1_isNearPlayer_B35 x1) (hV : vc_X1_isNearPlayer_B35 x1) (hC : Cx D cy ad R0 L (fA ad L s.heap.size) s M H locs) (hl : lv_has ls 2 []), W p l e ({ frames := 1, cells := 0, slots := 0, locals := 25 }) s m ([.ref (ad 1), .ref (ad b1)] : List Value).toArray below meth c H locs 0 0 (MQ below (va_Qi (fun r N => r = sp_X1_isNearPlayer M b1 ∧ N = M) (OW D cy ad L s.heap.size) (fA ad L s.heap.size)) ([.ref (ad 1), .ref (ad b1)] : List Value).toArray s 0 0 (fA ad L s.heap.size)) (F0 m 35 ls [.int x1]) := by
    intro x1 H locs ls  hT hV hC hl
    have hT : sp_X1_isNearPlayer M b1 = x1 := hT
    have hV : (x1 = 0 ∨ x1 = 1) := hV
    have w35 : x1 = 0 ∨ x1 = 1 := hV
    exact q_retz hx hb hr hlocks hC w35 ⟨hT.symm, rfl⟩ dX1_isNearPlayer_35
  have hT : sp_X1_isNearPlayer M b1 = if 9 ≤ (sp_X6_distance (gI M b1 0) (gI M b1 1) (gI M 5 0) (gI M 5 1)) then (sp_X1_isNearPlayer_B35 0) else (sp_X1_isNearPlayer_B35 1) := rfl
  have hV : if 9 ≤ (sp_X6_distance (gI M b1 0) (gI M b1 1) (gI M 5 0) (gI M 5 1)) then vc_X1_isNearPlayer_B35 0 else vc_X1_isNearPlayer_B35 1 := hV
  refine lv_aload_n hx hb dX1_isNearPlayer_0 rfl (lv_at hl 1 rfl) ?_
  refine q_geti (T := TX0) hx hb hB uw_X0 hown hK hC (isA.sh hb1) (hL _ (Nat.le_trans (by decide) (hb1).1) (Nat.le_trans (hb1).2 (by decide))) rfl 0 (by decide) rfl (hB _ mw_1_51) dX1_isNearPlayer_1 ?_
  refine lv_aload_n hx hb dX1_isNearPlayer_4 rfl (lv_at hl 1 rfl) ?_
  refine q_geti (T := TX0) hx hb hB uw_X0 hown hK hC (isA.sh hb1) (hL _ (Nat.le_trans (by decide) (hb1).1) (Nat.le_trans (hb1).2 (by decide))) rfl 1 (by decide) rfl (hB _ mw_1_56) dX1_isNearPlayer_5 ?_
  refine lv_aload_n hx hb dX1_isNearPlayer_8 rfl (lv_at hl 0 rfl) ?_
  refine q_getr (T := TX1) hx hb hB uw_X1 hown hK hC rfl (hL 1 (by decide) (by decide)) rfl 2 (by decide) rfl rfl (hB _ mw_1_131) dX1_isNearPlayer_9 ?_
  refine q_geti (T := TX0) hx hb hB uw_X0 hown hK hC rfl (hL 5 (by decide) (by decide)) rfl 0 (by decide) rfl (hB _ mw_1_51) dX1_isNearPlayer_12 ?_
  refine lv_aload_n hx hb dX1_isNearPlayer_15 rfl (lv_at hl 0 rfl) ?_
  refine q_getr (T := TX1) hx hb hB uw_X1 hown hK hC rfl (hL 1 (by decide) (by decide)) rfl 2 (by decide) rfl rfl (hB _ mw_1_131) dX1_isNearPlayer_16 ?_
  refine q_geti (T := TX0) hx hb hB uw_X0 hown hK hC rfl (hL 5 (by decide) (by decide)) rfl 1 (by decide) rfl (hB _ mw_1_56) dX1_isNearPlayer_19 ?_
  refine q_Ci (q_N (own := "MazeBoard$Game") (y := yX6_distance) (As := [.int (gI M b1 0), .int (gI M b1 1), .int (gI M 5 0), .int (gI M 5 1)]) (rest := []) ⟨hx, hb, hml, hown, hB⟩ hK hE hC (c_X6_distance l D cy ad L H.size M (gI M b1 0) (gI M b1 1) (gI M 5 0) (gI M 5 1)) (nw_X1_210 hE.2) mw_2_127 mw_1_1 mw_2_128 yd_X6_distance ⟨rfl, rfl⟩ ⟨Nat.le_of_ble_eq_true rfl, Nat.le_of_ble_eq_true rfl⟩ rfl hl.1 rfl (Nat.le_of_ble_eq_true rfl) dX1_isNearPlayer_22 ⟨Nat.le_refl _, Nat.le_refl _⟩) hC (fun r N_ H locs hp hC => ?_)
  obtain ⟨hr_, hM_⟩ := hp
  subst hr_
  rw [hM_] at hC
  refine lv_bipush (v := 9) hx hb dX1_isNearPlayer_25 (by decide) ?_
  refine lv_icmp_ge (tgt := 34) hx hb dX1_isNearPlayer_27 (by decide) (fun c27 => ?_) (fun c27 => ?_)
  · have hT : sp_X1_isNearPlayer M b1 = sp_X1_isNearPlayer_B35 0 := hT.trans (if_pos c27)
    have hV : vc_X1_isNearPlayer_B35 0 := iteT hV c27
    refine lv_iconst (v := 0) hx hb dX1_isNearPlayer_34 (by decide) ?_
    exact J35 0 _ _ _  hT hV hC (lv_sub hl [] rfl)
  · have hT : sp_X1_isNearPlayer M b1 = sp_X1_isNearPlayer_B35 1 := hT.trans (if_neg c27)
    have hV : vc_X1_isNearPlayer_B35 1 := iteF hV c27
    refine lv_iconst (v := 1) hx hb dX1_isNearPlayer_30 (by decide) ?_
    refine lv_goto (tgt := 35) hx hb dX1_isNearPlayer_31 (by decide) ?_
    exact J35 1 _ _ _  hT hV hC (lv_sub hl [] rfl)
set_option maxHeartbeats 4000000 in
set_option maxRecDepth 100000 in
theorem c_X1_isScatter (l : Launch) (D : va_G) (cy ad : Nat → Nat) (L : List Nat) (sz : Nat) (hL : lr 1 9 L) (M : Mem)  (hV : vc_X1_isScatter M ) : Met l yX1_isScatter (Cond.code yX1_isScatter cX1_isScatter 1 (some .boolean) :: BG) ({ frames := 0, cells := 0, slots := 0, locals := 0 }) (va_Pc [.ref (ad 1)] (PW D cy ad L M sz)) (va_Qi (fun r N => r = sp_X1_isScatter M ∧ N = M) (OW D cy ad L sz) (fA ad L sz)) 0 0 (fA ad L sz) := by
  refine q_start (by decide) (Nat.le_of_ble_eq_true rfl) (fun p e s m below meth c H locs ls hsz hx hb hr hlocks hml hown hB hK hE hC hl => ?_)
  subst hsz
  have hown : s.vm.findClass "MazeBoard$Game" = some m.cls := hown
  have hl : lv_has ls 1 [(0, .ref (ad 1))] := hl
  have J54 : ∀ (x1 : Int32) (H : Heap) (locs : List Loc) (ls : Array Slot) (hT : sp_X1_isScatter M = sp_X1_isScatter_B54 x1) (hV : vc_X1_isScatter_B54 x1) (hC : Cx D cy ad R0 L (fA ad L s.heap.size) s M H locs) (hl : lv_has ls 1 []), W p l e ({ frames := 0, cells := 0, slots := 0, locals := 0 }) s m ([.ref (ad 1)] : List Value).toArray below meth c H locs 0 0 (MQ below (va_Qi (fun r N => r = sp_X1_isScatter M ∧ N = M) (OW D cy ad L s.heap.size) (fA ad L s.heap.size)) ([.ref (ad 1)] : List Value).toArray s 0 0 (fA ad L s.heap.size)) (F0 m 54 ls [.int x1]) := by
    intro x1 H locs ls  hT hV hC hl
    have hT : sp_X1_isScatter M = x1 := hT
    have hV : (x1 = 0 ∨ x1 = 1) := hV
    have w54 : x1 = 0 ∨ x1 = 1 := hV
    exact q_retz hx hb hr hlocks hC w54 ⟨hT.symm, rfl⟩ dX1_isScatter_54
  have J53 : ∀  (H : Heap) (locs : List Loc) (ls : Array Slot) (hT : sp_X1_isScatter M = sp_X1_isScatter_B53 ) (hV : vc_X1_isScatter_B53 ) (hC : Cx D cy ad R0 L (fA ad L s.heap.size) s M H locs) (hl : lv_has ls 1 []), W p l e ({ frames := 0, cells := 0, slots := 0, locals := 0 }) s m ([.ref (ad 1)] : List Value).toArray below meth c H locs 0 0 (MQ below (va_Qi (fun r N => r = sp_X1_isScatter M ∧ N = M) (OW D cy ad L s.heap.size) (fA ad L s.heap.size)) ([.ref (ad 1)] : List Value).toArray s 0 0 (fA ad L s.heap.size)) (F0 m 53 ls []) := by
    intro  H locs ls  hT hV hC hl
    have hT : sp_X1_isScatter M = sp_X1_isScatter_B54 0 := hT
    have hV : vc_X1_isScatter_B54 0 := hV
    refine lv_iconst (v := 0) hx hb dX1_isScatter_53 (by decide) ?_
    exact J54 0 _ _ _  hT hV hC (lv_sub hl [] rfl)
  have J49 : ∀  (H : Heap) (locs : List Loc) (ls : Array Slot) (hT : sp_X1_isScatter M = sp_X1_isScatter_B49 ) (hV : vc_X1_isScatter_B49 ) (hC : Cx D cy ad R0 L (fA ad L s.heap.size) s M H locs) (hl : lv_has ls 1 []), W p l e ({ frames := 0, cells := 0, slots := 0, locals := 0 }) s m ([.ref (ad 1)] : List Value).toArray below meth c H locs 0 0 (MQ below (va_Qi (fun r N => r = sp_X1_isScatter M ∧ N = M) (OW D cy ad L s.heap.size) (fA ad L s.heap.size)) ([.ref (ad 1)] : List Value).toArray s 0 0 (fA ad L s.heap.size)) (F0 m 49 ls []) := by
    intro  H locs ls  hT hV hC hl
    have hT : sp_X1_isScatter M = sp_X1_isScatter_B54 1 := hT
    have hV : vc_X1_isScatter_B54 1 := hV
    refine lv_iconst (v := 1) hx hb dX1_isScatter_49 (by decide) ?_
    refine lv_goto (tgt := 54) hx hb dX1_isScatter_50 (by decide) ?_
    exact J54 1 _ _ _  hT hV hC (lv_sub hl [] rfl)
  have J29 : ∀  (H : Heap) (locs : List Loc) (ls : Array Slot) (hT : sp_X1_isScatter M = sp_X1_isScatter_B29 M) (hV : vc_X1_isScatter_B29 M) (hC : Cx D cy ad R0 L (fA ad L s.heap.size) s M H locs) (hl : lv_has ls 1 [(0, .ref (ad 1))]), W p l e ({ frames := 0, cells := 0, slots := 0, locals := 0 }) s m ([.ref (ad 1)] : List Value).toArray below meth c H locs 0 0 (MQ below (va_Qi (fun r N => r = sp_X1_isScatter M ∧ N = M) (OW D cy ad L s.heap.size) (fA ad L s.heap.size)) ([.ref (ad 1)] : List Value).toArray s 0 0 (fA ad L s.heap.size)) (F0 m 29 ls []) := by
    intro  H locs ls  hT hV hC hl
    have hT : sp_X1_isScatter M = if (gI M 1 11) < 600 then sp_X1_isScatter_B53 else (if 659 < (gI M 1 11) then sp_X1_isScatter_B53 else sp_X1_isScatter_B49) := hT
    have hV : if (gI M 1 11) < 600 then vc_X1_isScatter_B53 else (if 659 < (gI M 1 11) then vc_X1_isScatter_B53 else vc_X1_isScatter_B49) := hV
    refine lv_aload_n hx hb dX1_isScatter_29 rfl (lv_at hl 0 rfl) ?_
    refine q_geti (T := TX1) hx hb hB uw_X1 hown hK hC rfl (hL 1 (by decide) (by decide)) rfl 11 (by decide) rfl (hB _ mw_1_148) dX1_isScatter_30 ?_
    refine lv_sipush (v := 600) hx hb dX1_isScatter_33 (by decide) ?_
    refine lv_icmp_lt (tgt := 53) hx hb dX1_isScatter_36 (by decide) (fun c36 => ?_) (fun c36 => ?_)
    · have hT : sp_X1_isScatter M = sp_X1_isScatter_B53 := hT.trans (if_pos c36)
      have hV : vc_X1_isScatter_B53 := iteT hV c36
      exact J53  _ _ _  hT hV hC (lv_sub hl [] rfl)
    · have hT : sp_X1_isScatter M = if 659 < (gI M 1 11) then sp_X1_isScatter_B53 else sp_X1_isScatter_B49 := hT.trans (if_neg c36)
      have hV : if 659 < (gI M 1 11) then vc_X1_isScatter_B53 else vc_X1_isScatter_B49 := iteF hV c36
      refine lv_aload_n hx hb dX1_isScatter_39 rfl (lv_at hl 0 rfl) ?_
      refine q_geti (T := TX1) hx hb hB uw_X1 hown hK hC rfl (hL 1 (by decide) (by decide)) rfl 11 (by decide) rfl (hB _ mw_1_148) dX1_isScatter_40 ?_
      refine lv_sipush (v := 659) hx hb dX1_isScatter_43 (by decide) ?_
      refine lv_icmp_gt (tgt := 53) hx hb dX1_isScatter_46 (by decide) (fun c46 => ?_) (fun c46 => ?_)
      · have hT : sp_X1_isScatter M = sp_X1_isScatter_B53 := hT.trans (if_pos c46)
        have hV : vc_X1_isScatter_B53 := iteT hV c46
        exact J53  _ _ _  hT hV hC (lv_sub hl [] rfl)
      · have hT : sp_X1_isScatter M = sp_X1_isScatter_B49 := hT.trans (if_neg c46)
        have hV : vc_X1_isScatter_B49 := iteF hV c46
        exact J49  _ _ _  hT hV hC (lv_sub hl [] rfl)
  have hT : sp_X1_isScatter M = if (gI M 1 11) < 100 then sp_X1_isScatter_B49 else (if (gI M 1 11) < 300 then (sp_X1_isScatter_B29 M) else (if (gI M 1 11) ≤ 379 then sp_X1_isScatter_B49 else (sp_X1_isScatter_B29 M))) := rfl
  have hV : if (gI M 1 11) < 100 then vc_X1_isScatter_B49 else (if (gI M 1 11) < 300 then vc_X1_isScatter_B29 M else (if (gI M 1 11) ≤ 379 then vc_X1_isScatter_B49 else vc_X1_isScatter_B29 M)) := hV
  refine lv_aload_n hx hb dX1_isScatter_0 rfl (lv_at hl 0 rfl) ?_
  refine q_geti (T := TX1) hx hb hB uw_X1 hown hK hC rfl (hL 1 (by decide) (by decide)) rfl 11 (by decide) rfl (hB _ mw_1_148) dX1_isScatter_1 ?_
  refine lv_bipush (v := 100) hx hb dX1_isScatter_4 (by decide) ?_
  refine lv_icmp_lt (tgt := 49) hx hb dX1_isScatter_6 (by decide) (fun c6 => ?_) (fun c6 => ?_)
  · have hT : sp_X1_isScatter M = sp_X1_isScatter_B49 := hT.trans (if_pos c6)
    have hV : vc_X1_isScatter_B49 := iteT hV c6
    exact J49  _ _ _  hT hV hC (lv_sub hl [] rfl)
  · have hT : sp_X1_isScatter M = if (gI M 1 11) < 300 then (sp_X1_isScatter_B29 M) else (if (gI M 1 11) ≤ 379 then sp_X1_isScatter_B49 else (sp_X1_isScatter_B29 M)) := hT.trans (if_neg c6)
    have hV : if (gI M 1 11) < 300 then vc_X1_isScatter_B29 M else (if (gI M 1 11) ≤ 379 then vc_X1_isScatter_B49 else vc_X1_isScatter_B29 M) := iteF hV c6
    refine lv_aload_n hx hb dX1_isScatter_9 rfl (lv_at hl 0 rfl) ?_
    refine q_geti (T := TX1) hx hb hB uw_X1 hown hK hC rfl (hL 1 (by decide) (by decide)) rfl 11 (by decide) rfl (hB _ mw_1_148) dX1_isScatter_10 ?_
    refine lv_sipush (v := 300) hx hb dX1_isScatter_13 (by decide) ?_
    refine lv_icmp_lt (tgt := 29) hx hb dX1_isScatter_16 (by decide) (fun c16 => ?_) (fun c16 => ?_)
    · have hT : sp_X1_isScatter M = sp_X1_isScatter_B29 M := hT.trans (if_pos c16)
      have hV : vc_X1_isScatter_B29 M := iteT hV c16
      exact J29  _ _ _  hT hV hC (lv_sub hl [0] rfl)
    · have hT : sp_X1_isScatter M = if (gI M 1 11) ≤ 379 then sp_X1_isScatter_B49 else (sp_X1_isScatter_B29 M) := hT.trans (if_neg c16)
      have hV : if (gI M 1 11) ≤ 379 then vc_X1_isScatter_B49 else vc_X1_isScatter_B29 M := iteF hV c16
      refine lv_aload_n hx hb dX1_isScatter_19 rfl (lv_at hl 0 rfl) ?_
      refine q_geti (T := TX1) hx hb hB uw_X1 hown hK hC rfl (hL 1 (by decide) (by decide)) rfl 11 (by decide) rfl (hB _ mw_1_148) dX1_isScatter_20 ?_
      refine lv_sipush (v := 379) hx hb dX1_isScatter_23 (by decide) ?_
      refine lv_icmp_le (tgt := 49) hx hb dX1_isScatter_26 (by decide) (fun c26 => ?_) (fun c26 => ?_)
      · have hT : sp_X1_isScatter M = sp_X1_isScatter_B49 := hT.trans (if_pos c26)
        have hV : vc_X1_isScatter_B49 := iteT hV c26
        exact J49  _ _ _  hT hV hC (lv_sub hl [] rfl)
      · have hT : sp_X1_isScatter M = sp_X1_isScatter_B29 M := hT.trans (if_neg c26)
        have hV : vc_X1_isScatter_B29 M := iteF hV c26
        exact J29  _ _ _  hT hV hC (lv_sub hl [0] rfl)
set_option maxHeartbeats 4000000 in
set_option maxRecDepth 100000 in
theorem c_X1_setAim (l : Launch) (D : va_G) (cy ad : Nat → Nat) (L : List Nat) (sz : Nat) (hL : lr 1 9 L) (M : Mem) (b1 : Nat) (hb1 : isA b1) (a2 : Int32) (hV : vc_X1_setAim M b1 a2) : Met l yX1_setAim (Cond.code yX1_setAim cX1_setAim 3 (none) :: BG) ({ frames := 2, cells := 0, slots := 0, locals := 46 }) (va_Pc [.ref (ad 1), .ref (ad b1), .int a2] (PW D cy ad L M sz)) (va_Qv (fun N => N = sp_X1_setAim M b1 a2) (OW D cy ad L sz) (fA ad L sz)) 0 0 (fA ad L sz) := by
  refine q_start (by decide) (Nat.le_of_ble_eq_true rfl) (fun p e s m below meth c H locs ls hsz hx hb hr hlocks hml hown hB hK hE hC hl => ?_)
  subst hsz
  have hown : s.vm.findClass "MazeBoard$Game" = some m.cls := hown
  have hl : lv_has ls 3 [(0, .ref (ad 1)), (1, .ref (ad b1)), (2, .int a2)] := hl
  have J77 : ∀ (M6 : Mem) (H : Heap) (locs : List Loc) (ls : Array Slot) (hT : sp_X1_setAim M b1 a2 = sp_X1_setAim_B77 M6) (hC : Cx D cy ad R0 L (fA ad L s.heap.size) s M6 H locs) (hl : lv_has ls 3 []), W p l e ({ frames := 2, cells := 0, slots := 0, locals := 46 }) s m ([.ref (ad 1), .ref (ad b1), .int a2] : List Value).toArray below meth c H locs 0 0 (MQ below (va_Qv (fun N => N = sp_X1_setAim M b1 a2) (OW D cy ad L s.heap.size) (fA ad L s.heap.size)) ([.ref (ad 1), .ref (ad b1), .int a2] : List Value).toArray s 0 0 (fA ad L s.heap.size)) (F0 m 77 ls []) := by
    intro M6 H locs ls  hT hC hl
    have hT : sp_X1_setAim M b1 a2 = M6 := hT
    exact q_retv hx hb hr hlocks hC hT.symm dX1_setAim_77
  have J71 : ∀  (H : Heap) (locs : List Loc) (ls : Array Slot) (hT : sp_X1_setAim M b1 a2 = sp_X1_setAim_B71 M b1 a2) (hC : Cx D cy ad R0 L (fA ad L s.heap.size) s M H locs) (hl : lv_has ls 3 [(0, .ref (ad 1)), (1, .ref (ad b1)), (2, .int a2)]), W p l e ({ frames := 2, cells := 0, slots := 0, locals := 46 }) s m ([.ref (ad 1), .ref (ad b1), .int a2] : List Value).toArray below meth c H locs 0 0 (MQ below (va_Qv (fun N => N = sp_X1_setAim M b1 a2) (OW D cy ad L s.heap.size) (fA ad L s.heap.size)) ([.ref (ad 1), .ref (ad b1), .int a2] : List Value).toArray s 0 0 (fA ad L s.heap.size)) (F0 m 71 ls []) := by
    intro  H locs ls  hT hC hl
    have hT : sp_X1_setAim M b1 a2 = sp_X1_setAim_n1 (sp_X1_aimAtPlayer M b1 a2) := hT
    refine lv_aload_n hx hb dX1_setAim_71 rfl (lv_at hl 0 rfl) ?_
    refine lv_aload_n hx hb dX1_setAim_72 rfl (lv_at hl 1 rfl) ?_
    refine lv_iload_n hx hb dX1_setAim_73 rfl (lv_at hl 2 rfl) ?_
    refine q_Cv (q_V (own := "MazeBoard$Game") (y := yX1_aimAtPlayer) (As := [.ref (ad b1), .int a2]) (rest := []) ⟨hx, hb, hml, hown, hB⟩ hK hE hC (c_X1_aimAtPlayer l D cy ad L H.size (hL.sub (by decide) (by decide)) M b1 hb1 a2) rfl (hL 1 (by decide) (by decide)) rfl mw_2_129 mw_2_131 mw_0_16 mw_1_2 mw_2_132 rfl yd_X1_aimAtPlayer ⟨rfl, rfl⟩ ⟨Nat.le_of_ble_eq_true rfl, Nat.le_of_ble_eq_true rfl⟩ rfl hl.1 rfl (Nat.le_of_ble_eq_true rfl) dX1_setAim_74 ⟨Nat.le_refl _, Nat.le_refl _⟩) hC (fun M5 H locs eM5 hC => ?_)
    have hT : sp_X1_setAim M b1 a2 = sp_X1_setAim_n1 M5 := by rw [eM5]; exact hT
    exact J77 M5 _ _ _  hT hC (lv_sub hl [] rfl)
  have J65 : ∀ (x2 : Int32) (x3 : Int32) (H : Heap) (locs : List Loc) (ls : Array Slot) (hT : sp_X1_setAim M b1 a2 = sp_X1_setAim_B65 M b1 x2 x3) (hC : Cx D cy ad R0 L (fA ad L s.heap.size) s M H locs) (hl : lv_has ls 3 []), W p l e ({ frames := 2, cells := 0, slots := 0, locals := 46 }) s m ([.ref (ad 1), .ref (ad b1), .int a2] : List Value).toArray below meth c H locs 0 0 (MQ below (va_Qv (fun N => N = sp_X1_setAim M b1 a2) (OW D cy ad L s.heap.size) (fA ad L s.heap.size)) ([.ref (ad 1), .ref (ad b1), .int a2] : List Value).toArray s 0 0 (fA ad L s.heap.size)) (F0 m 65 ls [.int x3, .int x2, .ref (ad b1)]) := by
    intro x2 x3 H locs ls  hT hC hl
    have hT : sp_X1_setAim M b1 a2 = sp_X1_setAim_n2 (sp_X0_aimAt M b1 x2 x3) := hT
    refine q_Cv (q_V (own := "MazeBoard$Game") (y := yX0_aimAt) (As := [.int x2, .int x3]) (rest := []) ⟨hx, hb, hml, hown, hB⟩ hK hE hC (c_X0_aimAt l D cy ad L H.size (hL.sub (by decide) (by decide)) M b1 hb1 x2 x3) (isA.sh hb1) (hL _ (Nat.le_trans (by decide) (hb1).1) (Nat.le_trans (hb1).2 (by decide))) rfl mw_2_114 mw_2_115 mw_2_116 mw_1_4 mw_2_117 rfl yd_X0_aimAt ⟨rfl, rfl⟩ ⟨Nat.le_of_ble_eq_true rfl, Nat.le_of_ble_eq_true rfl⟩ rfl hl.1 rfl (Nat.le_of_ble_eq_true rfl) dX1_setAim_65 ⟨Nat.le_refl _, Nat.le_refl _⟩) hC (fun M4 H locs eM4 hC => ?_)
    have hT : sp_X1_setAim M b1 a2 = sp_X1_setAim_n2 M4 := by rw [eM4]; exact hT
    refine lv_goto (tgt := 77) hx hb dX1_setAim_68 (by decide) ?_
    exact J77 M4 _ _ _  hT hC (lv_sub hl [] rfl)
  have J54 : ∀ (x2 : Int32) (H : Heap) (locs : List Loc) (ls : Array Slot) (hT : sp_X1_setAim M b1 a2 = sp_X1_setAim_B54 M b1 a2 x2) (hC : Cx D cy ad R0 L (fA ad L s.heap.size) s M H locs) (hl : lv_has ls 3 [(2, .int a2)]), W p l e ({ frames := 2, cells := 0, slots := 0, locals := 46 }) s m ([.ref (ad 1), .ref (ad b1), .int a2] : List Value).toArray below meth c H locs 0 0 (MQ below (va_Qv (fun N => N = sp_X1_setAim M b1 a2) (OW D cy ad L s.heap.size) (fA ad L s.heap.size)) ([.ref (ad 1), .ref (ad b1), .int a2] : List Value).toArray s 0 0 (fA ad L s.heap.size)) (F0 m 54 ls [.int x2, .ref (ad b1)]) := by
    intro x2 H locs ls  hT hC hl
    have hT : sp_X1_setAim M b1 a2 = if 2 < a2 then (sp_X1_setAim_B65 M b1 x2 7) else (sp_X1_setAim_B65 M b1 x2 1) := hT
    refine lv_iload_n hx hb dX1_setAim_54 rfl (lv_at hl 0 rfl) ?_
    refine lv_iconst (v := 2) hx hb dX1_setAim_55 (by decide) ?_
    refine lv_icmp_gt (tgt := 63) hx hb dX1_setAim_56 (by decide) (fun c56 => ?_) (fun c56 => ?_)
    · have hT : sp_X1_setAim M b1 a2 = sp_X1_setAim_B65 M b1 x2 7 := hT.trans (if_pos c56)
      refine lv_bipush (v := 7) hx hb dX1_setAim_63 (by decide) ?_
      exact J65 x2 7 _ _ _  hT hC (lv_sub hl [] rfl)
    · have hT : sp_X1_setAim M b1 a2 = sp_X1_setAim_B65 M b1 x2 1 := hT.trans (if_neg c56)
      refine lv_iconst (v := 1) hx hb dX1_setAim_59 (by decide) ?_
      refine lv_goto (tgt := 65) hx hb dX1_setAim_60 (by decide) ?_
      exact J65 x2 1 _ _ _  hT hC (lv_sub hl [] rfl)
  have J48 : ∀  (H : Heap) (locs : List Loc) (ls : Array Slot) (hT : sp_X1_setAim M b1 a2 = sp_X1_setAim_B48 M b1 a2) (hC : Cx D cy ad R0 L (fA ad L s.heap.size) s M H locs) (hl : lv_has ls 3 [(2, .int a2)]), W p l e ({ frames := 2, cells := 0, slots := 0, locals := 46 }) s m ([.ref (ad 1), .ref (ad b1), .int a2] : List Value).toArray below meth c H locs 0 0 (MQ below (va_Qv (fun N => N = sp_X1_setAim M b1 a2) (OW D cy ad L s.heap.size) (fA ad L s.heap.size)) ([.ref (ad 1), .ref (ad b1), .int a2] : List Value).toArray s 0 0 (fA ad L s.heap.size)) (F0 m 48 ls [.ref (ad b1)]) := by
    intro  H locs ls  hT hC hl
    have hT : sp_X1_setAim M b1 a2 = sp_X1_setAim_B54 M b1 a2 11 := hT
    refine lv_bipush (v := 11) hx hb dX1_setAim_48 (by decide) ?_
    refine lv_goto (tgt := 54) hx hb dX1_setAim_50 (by decide) ?_
    exact J54 11 _ _ _  hT hC (lv_sub hl [0] rfl)
  have J37 : ∀  (H : Heap) (locs : List Loc) (ls : Array Slot) (hT : sp_X1_setAim M b1 a2 = sp_X1_setAim_B37 M b1 a2) (hC : Cx D cy ad R0 L (fA ad L s.heap.size) s M H locs) (hl : lv_has ls 3 [(1, .ref (ad b1)), (2, .int a2)]), W p l e ({ frames := 2, cells := 0, slots := 0, locals := 46 }) s m ([.ref (ad 1), .ref (ad b1), .int a2] : List Value).toArray below meth c H locs 0 0 (MQ below (va_Qv (fun N => N = sp_X1_setAim M b1 a2) (OW D cy ad L s.heap.size) (fA ad L s.heap.size)) ([.ref (ad 1), .ref (ad b1), .int a2] : List Value).toArray s 0 0 (fA ad L s.heap.size)) (F0 m 37 ls []) := by
    intro  H locs ls  hT hC hl
    have hT : sp_X1_setAim M b1 a2 = if a2 = 1 then (sp_X1_setAim_B48 M b1 a2) else (if a2 = 3 then (sp_X1_setAim_B48 M b1 a2) else (sp_X1_setAim_B54 M b1 a2 1)) := hT
    refine lv_aload_n hx hb dX1_setAim_37 rfl (lv_at hl 0 rfl) ?_
    refine lv_iload_n hx hb dX1_setAim_38 rfl (lv_at hl 1 rfl) ?_
    refine lv_iconst (v := 1) hx hb dX1_setAim_39 (by decide) ?_
    refine lv_icmp_eq (tgt := 48) hx hb dX1_setAim_40 (by decide) (fun c40 => ?_) (fun c40 => ?_)
    · have hT : sp_X1_setAim M b1 a2 = sp_X1_setAim_B48 M b1 a2 := hT.trans (if_pos c40)
      exact J48  _ _ _  hT hC (lv_sub hl [1] rfl)
    · have hT : sp_X1_setAim M b1 a2 = if a2 = 3 then (sp_X1_setAim_B48 M b1 a2) else (sp_X1_setAim_B54 M b1 a2 1) := hT.trans (if_neg c40)
      refine lv_iload_n hx hb dX1_setAim_43 rfl (lv_at hl 1 rfl) ?_
      refine lv_iconst (v := 3) hx hb dX1_setAim_44 (by decide) ?_
      refine lv_icmp_ne (tgt := 53) hx hb dX1_setAim_45 (by decide) (fun c45 => ?_) (fun c45 => ?_)
      · have hT : sp_X1_setAim M b1 a2 = sp_X1_setAim_B54 M b1 a2 1 := hT.trans (if_neg c45)
        refine lv_iconst (v := 1) hx hb dX1_setAim_53 (by decide) ?_
        exact J54 1 _ _ _  hT hC (lv_sub hl [1] rfl)
      · have hT : sp_X1_setAim M b1 a2 = sp_X1_setAim_B48 M b1 a2 := hT.trans (if_pos c45)
        exact J48  _ _ _  hT hC (lv_sub hl [1] rfl)
  have hT : sp_X1_setAim M b1 a2 = if (gI M b1 5) = 0 then (if (sp_X1_isScatter M) = 0 then (if a2 = 4 then (if (sp_X1_isNearPlayer M b1) = 0 then (sp_X1_setAim_B71 M b1 a2) else (sp_X1_setAim_B37 M b1 a2)) else (sp_X1_setAim_B71 M b1 a2)) else (sp_X1_setAim_B37 M b1 a2)) else (sp_X1_setAim_n3 (sp_X0_aimAt M b1 6 2)) := rfl
  have hV : if (gI M b1 5) = 0 then (vc_X1_isScatter M ∧ (if (sp_X1_isScatter M) = 0 then (if a2 = 4 then vc_X1_isNearPlayer M b1 else True) else True)) else True := hV
  refine lv_aload_n hx hb dX1_setAim_0 rfl (lv_at hl 1 rfl) ?_
  refine q_geti (T := TX0) hx hb hB uw_X0 hown hK hC (isA.sh hb1) (hL _ (Nat.le_trans (by decide) (hb1).1) (Nat.le_trans (hb1).2 (by decide))) rfl 5 (by decide) rfl (hB _ mw_1_72) dX1_setAim_1 ?_
  refine lv_if_eq (tgt := 17) hx hb dX1_setAim_4 (by decide) (fun c4 => ?_) (fun c4 => ?_)
  · have hT : sp_X1_setAim M b1 a2 = if (sp_X1_isScatter M) = 0 then (if a2 = 4 then (if (sp_X1_isNearPlayer M b1) = 0 then (sp_X1_setAim_B71 M b1 a2) else (sp_X1_setAim_B37 M b1 a2)) else (sp_X1_setAim_B71 M b1 a2)) else (sp_X1_setAim_B37 M b1 a2) := hT.trans (if_pos c4)
    have hV : vc_X1_isScatter M ∧ (if (sp_X1_isScatter M) = 0 then (if a2 = 4 then vc_X1_isNearPlayer M b1 else True) else True) := iteT hV c4
    refine lv_aload_n hx hb dX1_setAim_17 rfl (lv_at hl 0 rfl) ?_
    obtain ⟨v18, hV⟩ : vc_X1_isScatter M ∧ (if (sp_X1_isScatter M) = 0 then (if a2 = 4 then vc_X1_isNearPlayer M b1 else True) else True) := hV
    refine q_Ci (q_V (own := "MazeBoard$Game") (y := yX1_isScatter) (As := []) (rest := []) ⟨hx, hb, hml, hown, hB⟩ hK hE hC (c_X1_isScatter l D cy ad L H.size (hL.sub (by decide) (by decide)) M  v18) rfl (hL 1 (by decide) (by decide)) rfl mw_2_118 mw_2_120 mw_0_14 mw_1_2 mw_2_121 rfl yd_X1_isScatter ⟨rfl, rfl⟩ ⟨Nat.le_of_ble_eq_true rfl, Nat.le_of_ble_eq_true rfl⟩ rfl hl.1 rfl (Nat.le_of_ble_eq_true rfl) dX1_setAim_18 ⟨Nat.le_refl _, Nat.le_refl _⟩) hC (fun r N_ H locs hp hC => ?_)
    obtain ⟨hr_, hM_⟩ := hp
    subst hr_
    rw [hM_] at hC
    refine lv_if_ne (tgt := 37) hx hb dX1_setAim_21 (by decide) (fun c21 => ?_) (fun c21 => ?_)
    · have hT : sp_X1_setAim M b1 a2 = sp_X1_setAim_B37 M b1 a2 := hT.trans (if_neg c21)
      exact J37  _ _ _  hT hC (lv_sub hl [1, 2] rfl)
    · have hT : sp_X1_setAim M b1 a2 = if a2 = 4 then (if (sp_X1_isNearPlayer M b1) = 0 then (sp_X1_setAim_B71 M b1 a2) else (sp_X1_setAim_B37 M b1 a2)) else (sp_X1_setAim_B71 M b1 a2) := hT.trans (if_pos c21)
      have hV : if a2 = 4 then vc_X1_isNearPlayer M b1 else True := iteT hV c21
      refine lv_iload_n hx hb dX1_setAim_24 rfl (lv_at hl 2 rfl) ?_
      refine lv_iconst (v := 4) hx hb dX1_setAim_25 (by decide) ?_
      refine lv_icmp_ne (tgt := 71) hx hb dX1_setAim_26 (by decide) (fun c26 => ?_) (fun c26 => ?_)
      · have hT : sp_X1_setAim M b1 a2 = sp_X1_setAim_B71 M b1 a2 := hT.trans (if_neg c26)
        exact J71  _ _ _  hT hC (lv_sub hl [0, 1, 2] rfl)
      · have hT : sp_X1_setAim M b1 a2 = if (sp_X1_isNearPlayer M b1) = 0 then (sp_X1_setAim_B71 M b1 a2) else (sp_X1_setAim_B37 M b1 a2) := hT.trans (if_pos c26)
        have hV : vc_X1_isNearPlayer M b1 := iteT hV c26
        refine lv_aload_n hx hb dX1_setAim_29 rfl (lv_at hl 0 rfl) ?_
        refine lv_aload_n hx hb dX1_setAim_30 rfl (lv_at hl 1 rfl) ?_
        have v31 : vc_X1_isNearPlayer M b1 := hV
        refine q_Ci (q_V (own := "MazeBoard$Game") (y := yX1_isNearPlayer) (As := [.ref (ad b1)]) (rest := []) ⟨hx, hb, hml, hown, hB⟩ hK hE hC (c_X1_isNearPlayer l D cy ad L H.size (hL.sub (by decide) (by decide)) M b1 hb1 v31) rfl (hL 1 (by decide) (by decide)) rfl mw_2_122 mw_2_124 mw_0_15 mw_1_2 mw_2_125 rfl yd_X1_isNearPlayer ⟨rfl, rfl⟩ ⟨Nat.le_of_ble_eq_true rfl, Nat.le_of_ble_eq_true rfl⟩ rfl hl.1 rfl (Nat.le_of_ble_eq_true rfl) dX1_setAim_31 ⟨Nat.le_refl _, Nat.le_refl _⟩) hC (fun r N_ H locs hp hC => ?_)
        obtain ⟨hr_, hM_⟩ := hp
        subst hr_
        rw [hM_] at hC
        refine lv_if_eq (tgt := 71) hx hb dX1_setAim_34 (by decide) (fun c34 => ?_) (fun c34 => ?_)
        · have hT : sp_X1_setAim M b1 a2 = sp_X1_setAim_B71 M b1 a2 := hT.trans (if_pos c34)
          exact J71  _ _ _  hT hC (lv_sub hl [0, 1, 2] rfl)
        · have hT : sp_X1_setAim M b1 a2 = sp_X1_setAim_B37 M b1 a2 := hT.trans (if_neg c34)
          exact J37  _ _ _  hT hC (lv_sub hl [1, 2] rfl)
  · have hT : sp_X1_setAim M b1 a2 = sp_X1_setAim_n3 (sp_X0_aimAt M b1 6 2) := hT.trans (if_neg c4)
    refine lv_aload_n hx hb dX1_setAim_7 rfl (lv_at hl 1 rfl) ?_
    refine lv_bipush (v := 6) hx hb dX1_setAim_8 (by decide) ?_
    refine lv_iconst (v := 2) hx hb dX1_setAim_10 (by decide) ?_
    refine q_Cv (q_V (own := "MazeBoard$Game") (y := yX0_aimAt) (As := [.int 6, .int 2]) (rest := []) ⟨hx, hb, hml, hown, hB⟩ hK hE hC (c_X0_aimAt l D cy ad L H.size (hL.sub (by decide) (by decide)) M b1 hb1 6 2) (isA.sh hb1) (hL _ (Nat.le_trans (by decide) (hb1).1) (Nat.le_trans (hb1).2 (by decide))) rfl mw_2_114 mw_2_115 mw_2_116 mw_1_4 mw_2_117 rfl yd_X0_aimAt ⟨rfl, rfl⟩ ⟨Nat.le_of_ble_eq_true rfl, Nat.le_of_ble_eq_true rfl⟩ rfl hl.1 rfl (Nat.le_of_ble_eq_true rfl) dX1_setAim_11 ⟨Nat.le_refl _, Nat.le_refl _⟩) hC (fun M1 H locs eM1 hC => ?_)
    have hT : sp_X1_setAim M b1 a2 = sp_X1_setAim_n3 M1 := by rw [eM1]; exact hT
    refine lv_goto (tgt := 77) hx hb dX1_setAim_14 (by decide) ?_
    exact J77 M1 _ _ _  hT hC (lv_sub hl [] rfl)
set_option maxHeartbeats 4000000 in
set_option maxRecDepth 100000 in
theorem c_X1_chooseDirection (l : Launch) (D : va_G) (cy ad : Nat → Nat) (L : List Nat) (sz : Nat) (hL : lr 1 9 L) (M : Mem) (b1 : Nat) (hb1 : isA b1) (a2 : Int32) (hV : vc_X1_chooseDirection M b1 a2) : Met l yX1_chooseDirection (Cond.code yX1_chooseDirection cX1_chooseDirection 3 (none) :: BG) ({ frames := 3, cells := 0, slots := 0, locals := 73 }) (va_Pc [.ref (ad 1), .ref (ad b1), .int a2] (PW D cy ad L M sz)) (va_Qv (fun N => N = sp_X1_chooseDirection M b1 a2) (OW D cy ad L sz) (fA ad L sz)) 0 0 (fA ad L sz) := by
  refine q_start (by decide) (Nat.le_of_ble_eq_true rfl) (fun p e s m below meth c H locs ls hsz hx hb hr hlocks hml hown hB hK hE hC hl => ?_)
  subst hsz
  have hown : s.vm.findClass "MazeBoard$Game" = some m.cls := hown
  have hl : lv_has ls 3 [(0, .ref (ad 1)), (1, .ref (ad b1)), (2, .int a2)] := hl
  have J38 : ∀ (M6 : Mem) (H : Heap) (locs : List Loc) (ls : Array Slot) (hT : sp_X1_chooseDirection M b1 a2 = sp_X1_chooseDirection_B38 M6) (hC : Cx D cy ad R0 L (fA ad L s.heap.size) s M6 H locs) (hl : lv_has ls 3 []), W p l e ({ frames := 3, cells := 0, slots := 0, locals := 73 }) s m ([.ref (ad 1), .ref (ad b1), .int a2] : List Value).toArray below meth c H locs 0 0 (MQ below (va_Qv (fun N => N = sp_X1_chooseDirection M b1 a2) (OW D cy ad L s.heap.size) (fA ad L s.heap.size)) ([.ref (ad 1), .ref (ad b1), .int a2] : List Value).toArray s 0 0 (fA ad L s.heap.size)) (F0 m 38 ls []) := by
    intro M6 H locs ls  hT hC hl
    have hT : sp_X1_chooseDirection M b1 a2 = M6 := hT
    exact q_retv hx hb hr hlocks hC hT.symm dX1_chooseDirection_38
  have hT : sp_X1_chooseDirection M b1 a2 = if (gI M b1 4) = 0 then (sp_X1_chooseDirection_n2 b1 (sp_X1_setAim M b1 a2)) else (sp_X1_chooseDirection_n4 b1 ((sp_X1_drawNumber M).2) ((sp_X1_drawNumber M).1)) := rfl
  have hV : if (gI M b1 4) = 0 then (vc_X1_setAim M b1 a2 ∧ (vc_X1_chooseDirection_n2 b1 (sp_X1_setAim M b1 a2))) else (vc_X1_chooseDirection_n4 b1 ((sp_X1_drawNumber M).2) ((sp_X1_drawNumber M).1)) := hV
  refine lv_aload_n hx hb dX1_chooseDirection_0 rfl (lv_at hl 1 rfl) ?_
  refine q_geti (T := TX0) hx hb hB uw_X0 hown hK hC (isA.sh hb1) (hL _ (Nat.le_trans (by decide) (hb1).1) (Nat.le_trans (hb1).2 (by decide))) rfl 4 (by decide) rfl (hB _ mw_1_67) dX1_chooseDirection_1 ?_
  refine lv_if_eq (tgt := 23) hx hb dX1_chooseDirection_4 (by decide) (fun c4 => ?_) (fun c4 => ?_)
  · have hT : sp_X1_chooseDirection M b1 a2 = sp_X1_chooseDirection_n2 b1 (sp_X1_setAim M b1 a2) := hT.trans (if_pos c4)
    have hV : vc_X1_setAim M b1 a2 ∧ (vc_X1_chooseDirection_n2 b1 (sp_X1_setAim M b1 a2)) := iteT hV c4
    refine lv_aload_n hx hb dX1_chooseDirection_23 rfl (lv_at hl 0 rfl) ?_
    refine lv_aload_n hx hb dX1_chooseDirection_24 rfl (lv_at hl 1 rfl) ?_
    refine lv_iload_n hx hb dX1_chooseDirection_25 rfl (lv_at hl 2 rfl) ?_
    obtain ⟨v26, hV⟩ : vc_X1_setAim M b1 a2 ∧ (vc_X1_chooseDirection_n2 b1 (sp_X1_setAim M b1 a2)) := hV
    refine q_Cv (q_V (own := "MazeBoard$Game") (y := yX1_setAim) (As := [.ref (ad b1), .int a2]) (rest := []) ⟨hx, hb, hml, hown, hB⟩ hK hE hC (c_X1_setAim l D cy ad L H.size (hL.sub (by decide) (by decide)) M b1 hb1 a2 v26) rfl (hL 1 (by decide) (by decide)) rfl mw_2_110 mw_2_112 mw_0_13 mw_1_2 mw_2_113 rfl yd_X1_setAim ⟨rfl, rfl⟩ ⟨Nat.le_of_ble_eq_true rfl, Nat.le_of_ble_eq_true rfl⟩ rfl hl.1 rfl (Nat.le_of_ble_eq_true rfl) dX1_chooseDirection_26 ⟨Nat.le_refl _, Nat.le_refl _⟩) hC (fun M1 H locs eM1 hC => ?_)
    have hT : sp_X1_chooseDirection M b1 a2 = sp_X1_chooseDirection_n2 b1 M1 := by rw [eM1]; exact hT
    have hV : vc_X1_chooseDirection_n2 b1 M1 := by rw [eM1]; exact hV
    refine lv_aload_n hx hb dX1_chooseDirection_29 rfl (lv_at hl 1 rfl) ?_
    refine lv_aload_n hx hb dX1_chooseDirection_30 rfl (lv_at hl 0 rfl) ?_
    refine lv_aload_n hx hb dX1_chooseDirection_31 rfl (lv_at hl 1 rfl) ?_
    have v32 : vc_X1_nearestToAim M1 b1 := hV
    refine q_Ci (q_V (own := "MazeBoard$Game") (y := yX1_nearestToAim) (As := [.ref (ad b1)]) (rest := [.ref (ad b1)]) ⟨hx, hb, hml, hown, hB⟩ hK hE hC (c_X1_nearestToAim l D cy ad L H.size (hL.sub (by decide) (by decide)) M1 b1 hb1 v32) rfl (hL 1 (by decide) (by decide)) rfl mw_2_139 mw_2_141 mw_0_17 mw_1_2 mw_2_142 rfl yd_X1_nearestToAim ⟨rfl, rfl⟩ ⟨Nat.le_of_ble_eq_true rfl, Nat.le_of_ble_eq_true rfl⟩ rfl hl.1 rfl (Nat.le_of_ble_eq_true rfl) dX1_chooseDirection_32 ⟨Nat.le_refl _, Nat.le_refl _⟩) hC (fun r N_ H locs hp hC => ?_)
    obtain ⟨hr_, hM_⟩ := hp
    subst hr_
    rw [hM_] at hC
    refine q_puti (T := TX0) hx hb hB uw_X0 tyX0 tyX0_ok nmX0 hown hK hC (isA.sh hb1) (hL _ (Nat.le_trans (by decide) (hb1).1) (Nat.le_trans (hb1).2 (by decide))) rfl 2 (by decide) rfl (hB _ mw_1_60) rfl rfl rfl rfl dX1_chooseDirection_35 (fun H locs hC => ?_)
    obtain ⟨M2, eM2⟩ : ∃ z : Mem, z = wI M1 b1 2 (sp_X1_nearestToAim M1 b1) := ⟨_, rfl⟩
    rw [← eM2] at hC
    have hT : sp_X1_chooseDirection M b1 a2 = sp_X1_chooseDirection_n1 M2 := by rw [eM2]; exact hT
    exact J38 M2 _ _ _  hT hC (lv_sub hl [] rfl)
  · have hT : sp_X1_chooseDirection M b1 a2 = sp_X1_chooseDirection_n4 b1 ((sp_X1_drawNumber M).2) ((sp_X1_drawNumber M).1) := hT.trans (if_neg c4)
    have hV : vc_X1_chooseDirection_n4 b1 ((sp_X1_drawNumber M).2) ((sp_X1_drawNumber M).1) := iteF hV c4
    refine lv_aload_n hx hb dX1_chooseDirection_7 rfl (lv_at hl 1 rfl) ?_
    refine lv_aload_n hx hb dX1_chooseDirection_8 rfl (lv_at hl 0 rfl) ?_
    refine lv_aload_n hx hb dX1_chooseDirection_9 rfl (lv_at hl 0 rfl) ?_
    refine q_Ci (q_V (own := "MazeBoard$Game") (y := yX1_drawNumber) (As := []) (rest := [.ref (ad 1), .ref (ad b1)]) ⟨hx, hb, hml, hown, hB⟩ hK hE hC (c_X1_drawNumber l D cy ad L H.size (hL.sub (by decide) (by decide)) M ) rfl (hL 1 (by decide) (by decide)) rfl mw_2_101 mw_2_103 mw_0_11 mw_1_2 mw_2_104 rfl yd_X1_drawNumber ⟨rfl, rfl⟩ ⟨Nat.le_of_ble_eq_true rfl, Nat.le_of_ble_eq_true rfl⟩ rfl hl.1 rfl (Nat.le_of_ble_eq_true rfl) dX1_chooseDirection_10 ⟨Nat.le_refl _, Nat.le_refl _⟩) hC (fun x4 M3 H locs hp hC => ?_)
    obtain ⟨ex4, eM3⟩ := hp
    have hT : sp_X1_chooseDirection M b1 a2 = sp_X1_chooseDirection_n4 b1 M3 x4 := by rw [ex4, eM3]; exact hT
    have hV : vc_X1_chooseDirection_n4 b1 M3 x4 := by rw [ex4, eM3]; exact hV
    refine lv_aload_n hx hb dX1_chooseDirection_13 rfl (lv_at hl 1 rfl) ?_
    have v14 : vc_X1_firstOpenFrom M3 x4 b1 := hV
    refine q_Ci (q_V (own := "MazeBoard$Game") (y := yX1_firstOpenFrom) (As := [.int x4, .ref (ad b1)]) (rest := [.ref (ad b1)]) ⟨hx, hb, hml, hown, hB⟩ hK hE hC (c_X1_firstOpenFrom l D cy ad L H.size (hL.sub (by decide) (by decide)) M3 x4 b1 hb1 v14) rfl (hL 1 (by decide) (by decide)) rfl mw_2_106 mw_2_108 mw_0_12 mw_1_2 mw_2_109 rfl yd_X1_firstOpenFrom ⟨rfl, rfl⟩ ⟨Nat.le_of_ble_eq_true rfl, Nat.le_of_ble_eq_true rfl⟩ rfl hl.1 rfl (Nat.le_of_ble_eq_true rfl) dX1_chooseDirection_14 ⟨Nat.le_refl _, Nat.le_refl _⟩) hC (fun r N_ H locs hp hC => ?_)
    obtain ⟨hr_, hM_⟩ := hp
    subst hr_
    rw [hM_] at hC
    refine q_puti (T := TX0) hx hb hB uw_X0 tyX0 tyX0_ok nmX0 hown hK hC (isA.sh hb1) (hL _ (Nat.le_trans (by decide) (hb1).1) (Nat.le_trans (hb1).2 (by decide))) rfl 2 (by decide) rfl (hB _ mw_1_60) rfl rfl rfl rfl dX1_chooseDirection_17 (fun H locs hC => ?_)
    obtain ⟨M5, eM5⟩ : ∃ z : Mem, z = wI M3 b1 2 (sp_X1_firstOpenFrom M3 x4 b1) := ⟨_, rfl⟩
    rw [← eM5] at hC
    have hT : sp_X1_chooseDirection M b1 a2 = sp_X1_chooseDirection_n3 M5 := by rw [eM5]; exact hT
    refine lv_goto (tgt := 38) hx hb dX1_chooseDirection_20 (by decide) ?_
    exact J38 M5 _ _ _  hT hC (lv_sub hl [] rfl)
set_option maxHeartbeats 4000000 in
set_option maxRecDepth 100000 in
theorem c_X1_moveHunter (l : Launch) (D : va_G) (cy ad : Nat → Nat) (L : List Nat) (sz : Nat) (hL : lr 1 9 L) (M : Mem) (a1 : Int32) (hV : vc_X1_moveHunter M a1) : Met l yX1_moveHunter (Cond.code yX1_moveHunter cX1_moveHunter 4 (none) :: BG) ({ frames := 4, cells := 0, slots := 0, locals := 95 }) (va_Pc [.ref (ad 1), .int a1] (PW D cy ad L M sz)) (va_Qv (fun N => N = sp_X1_moveHunter M a1) (OW D cy ad L sz) (fA ad L sz)) 0 0 (fA ad L sz) := by
  refine q_start (by decide) (Nat.le_of_ble_eq_true rfl) (fun p e s m below meth c H locs ls hsz hx hb hr hlocks hml hown hB hK hE hC hl => ?_)
  subst hsz
  have hown : s.vm.findClass "MazeBoard$Game" = some m.cls := hown
  have hl : lv_has ls 4 [(0, .ref (ad 1)), (1, .int a1)] := hl
  have J118 : ∀ (M10 : Mem) (H : Heap) (locs : List Loc) (ls : Array Slot) (hq118_0 : isA (5 + a1.toNatClampNeg)) (hT : sp_X1_moveHunter M a1 = sp_X1_moveHunter_B118 a1 M10) (hV : vc_X1_moveHunter_B118 a1 M10) (hC : Cx D cy ad R0 L (fA ad L s.heap.size) s M10 H locs) (hl : lv_has ls 4 [(0, .ref (ad 1)), (1, .int a1), (2, .ref (ad (5 + a1.toNatClampNeg)))]), W p l e ({ frames := 4, cells := 0, slots := 0, locals := 95 }) s m ([.ref (ad 1), .int a1] : List Value).toArray below meth c H locs 0 0 (MQ below (va_Qv (fun N => N = sp_X1_moveHunter M a1) (OW D cy ad L s.heap.size) (fA ad L s.heap.size)) ([.ref (ad 1), .int a1] : List Value).toArray s 0 0 (fA ad L s.heap.size)) (F0 m 118 ls []) := by
    intro M10 H locs ls hq118_0 hT hV hC hl
    have hT : sp_X1_moveHunter M a1 = sp_X1_moveHunter_n1 (sp_X1_chooseDirection M10 (5 + a1.toNatClampNeg) a1) := hT
    have hV : (vc_X1_chooseDirection M10 (5 + a1.toNatClampNeg) a1) := hV
    refine lv_aload_n hx hb dX1_moveHunter_118 rfl (lv_at hl 0 rfl) ?_
    refine lv_aload_n hx hb dX1_moveHunter_119 rfl (lv_at hl 2 rfl) ?_
    refine lv_iload_n hx hb dX1_moveHunter_120 rfl (lv_at hl 1 rfl) ?_
    have v121 : vc_X1_chooseDirection M10 (5 + a1.toNatClampNeg) a1 := hV
    refine q_Cv (q_V (own := "MazeBoard$Game") (y := yX1_chooseDirection) (As := [.ref (ad (5 + a1.toNatClampNeg)), .int a1]) (rest := []) ⟨hx, hb, hml, hown, hB⟩ hK hE hC (c_X1_chooseDirection l D cy ad L H.size (hL.sub (by decide) (by decide)) M10 (5 + a1.toNatClampNeg) hq118_0 a1 v121) rfl (hL 1 (by decide) (by decide)) rfl mw_2_97 mw_2_99 mw_0_10 mw_1_2 mw_2_100 rfl yd_X1_chooseDirection ⟨rfl, rfl⟩ ⟨Nat.le_of_ble_eq_true rfl, Nat.le_of_ble_eq_true rfl⟩ rfl hl.1 rfl (Nat.le_of_ble_eq_true rfl) dX1_moveHunter_121 ⟨Nat.le_refl _, Nat.le_refl _⟩) hC (fun M11 H locs eM11 hC => ?_)
    have hT : sp_X1_moveHunter M a1 = sp_X1_moveHunter_n1 M11 := by rw [eM11]; exact hT
    exact q_retv hx hb hr hlocks hC hT.symm dX1_moveHunter_124
  have J75 : ∀ (f5 : UInt32) (H : Heap) (locs : List Loc) (ls : Array Slot) (hq75_0 : isA (5 + a1.toNatClampNeg)) (hT : sp_X1_moveHunter M a1 = sp_X1_moveHunter_B75 M a1 f5) (hV : vc_X1_moveHunter_B75 M a1 f5) (hC : Cx D cy ad R0 L (fA ad L s.heap.size) s M H locs) (hl : lv_has ls 4 [(0, .ref (ad 1)), (1, .int a1), (2, .ref (ad (5 + a1.toNatClampNeg)))]), W p l e ({ frames := 4, cells := 0, slots := 0, locals := 95 }) s m ([.ref (ad 1), .int a1] : List Value).toArray below meth c H locs 0 0 (MQ below (va_Qv (fun N => N = sp_X1_moveHunter M a1) (OW D cy ad L s.heap.size) (fA ad L s.heap.size)) ([.ref (ad 1), .int a1] : List Value).toArray s 0 0 (fA ad L s.heap.size)) (F0 m 75 ls [.float f5, .float (gF M (5 + a1.toNatClampNeg) 3), .ref (ad (5 + a1.toNatClampNeg))]) := by
    intro f5 H locs ls hq75_0 hT hV hC hl
    have hT : sp_X1_moveHunter M a1 = sp_X1_moveHunter_n5 a1 (wF M (5 + a1.toNatClampNeg) 3 (FP.fadd (gF M (5 + a1.toNatClampNeg) 3) f5)) := hT
    have hV : (vf_n32 (FP.fadd (gF M (5 + a1.toNatClampNeg) 3) f5)) ∧ (vc_X1_moveHunter_n5 a1 (wF M (5 + a1.toNatClampNeg) 3 (FP.fadd (gF M (5 + a1.toNatClampNeg) 3) f5))) := hV
    obtain ⟨w75, hV⟩ : (vf_n32 (FP.fadd (gF M (5 + a1.toNatClampNeg) 3) f5)) ∧ (vc_X1_moveHunter_n5 a1 (wF M (5 + a1.toNatClampNeg) 3 (FP.fadd (gF M (5 + a1.toNatClampNeg) 3) f5))) := hV
    refine lv_fadd hx hb dX1_moveHunter_75 w75 ?_
    refine q_putf (T := TX0) hx hb hB uw_X0 tyX0 tyX0_ok nmX0 hown hK hC (isA.sh hq75_0) (hL _ (Nat.le_trans (by decide) (hq75_0).1) (Nat.le_trans (hq75_0).2 (by decide))) rfl 3 (by decide) rfl (hB _ mw_1_63) rfl rfl dX1_moveHunter_76 (fun H locs hC => ?_)
    obtain ⟨M6, eM6⟩ : ∃ z : Mem, z = wF M (5 + a1.toNatClampNeg) 3 (FP.fadd (gF M (5 + a1.toNatClampNeg) 3) f5) := ⟨_, rfl⟩
    rw [← eM6] at hC
    have hT : sp_X1_moveHunter M a1 = sp_X1_moveHunter_n5 a1 M6 := by rw [eM6]; exact hT
    have hV : vc_X1_moveHunter_n5 a1 M6 := by rw [eM6]; exact hV
    refine lv_aload_n hx hb dX1_moveHunter_79 rfl (lv_at hl 2 rfl) ?_
    refine q_getf (T := TX0) hx hb hB uw_X0 hown hK hC (isA.sh hq75_0) (hL _ (Nat.le_trans (by decide) (hq75_0).1) (Nat.le_trans (hq75_0).2 (by decide))) rfl 3 (by decide) rfl (hB _ mw_1_63) dX1_moveHunter_80 ?_
    refine lv_fconst1 hx hb dX1_moveHunter_83 ?_
    refine lv_fcmp hx hb dX1_moveHunter_84 ?_
    refine lv_if_ge (tgt := 89) hx hb dX1_moveHunter_85 (by decide) (fun c85 => ?_) (fun c85 => ?_)
    · have hT : sp_X1_moveHunter M a1 = sp_X1_moveHunter_n4 a1 (sp_X0_enterNextCell M6 (5 + a1.toNatClampNeg)) := hT.trans (if_pos c85)
      have hV : vc_X1_moveHunter_n4 a1 (sp_X0_enterNextCell M6 (5 + a1.toNatClampNeg)) := iteT hV c85
      refine lv_aload_n hx hb dX1_moveHunter_89 rfl (lv_at hl 2 rfl) ?_
      refine q_Cv (q_V (own := "MazeBoard$Game") (y := yX0_enterNextCell) (As := []) (rest := []) ⟨hx, hb, hml, hown, hB⟩ hK hE hC (c_X0_enterNextCell l D cy ad L H.size (hL.sub (by decide) (by decide)) M6 (5 + a1.toNatClampNeg) hq75_0) (isA.sh hq75_0) (hL _ (Nat.le_trans (by decide) (hq75_0).1) (Nat.le_trans (hq75_0).2 (by decide))) rfl mw_2_61 mw_2_62 mw_2_63 mw_1_4 mw_2_64 rfl yd_X0_enterNextCell ⟨rfl, rfl⟩ ⟨Nat.le_of_ble_eq_true rfl, Nat.le_of_ble_eq_true rfl⟩ rfl hl.1 rfl (Nat.le_of_ble_eq_true rfl) dX1_moveHunter_90 ⟨Nat.le_refl _, Nat.le_refl _⟩) hC (fun M7 H locs eM7 hC => ?_)
      have hT : sp_X1_moveHunter M a1 = sp_X1_moveHunter_n4 a1 M7 := by rw [eM7]; exact hT
      have hV : vc_X1_moveHunter_n4 a1 M7 := by rw [eM7]; exact hV
      refine lv_aload_n hx hb dX1_moveHunter_93 rfl (lv_at hl 2 rfl) ?_
      refine lv_aload_n hx hb dX1_moveHunter_94 rfl (lv_at hl 2 rfl) ?_
      refine q_getf (T := TX0) hx hb hB uw_X0 hown hK hC (isA.sh hq75_0) (hL _ (Nat.le_trans (by decide) (hq75_0).1) (Nat.le_trans (hq75_0).2 (by decide))) rfl 3 (by decide) rfl (hB _ mw_1_63) dX1_moveHunter_95 ?_
      refine lv_fconst1 hx hb dX1_moveHunter_98 ?_
      obtain ⟨w99, hV⟩ : (vf_n32 (FP.fsub (gF M7 (5 + a1.toNatClampNeg) 3) FP.fconst1)) ∧ (vc_X1_moveHunter_n3 a1 (wF M7 (5 + a1.toNatClampNeg) 3 (FP.fsub (gF M7 (5 + a1.toNatClampNeg) 3) FP.fconst1))) := hV
      refine lv_fsub hx hb dX1_moveHunter_99 w99 ?_
      refine q_putf (T := TX0) hx hb hB uw_X0 tyX0 tyX0_ok nmX0 hown hK hC (isA.sh hq75_0) (hL _ (Nat.le_trans (by decide) (hq75_0).1) (Nat.le_trans (hq75_0).2 (by decide))) rfl 3 (by decide) rfl (hB _ mw_1_63) rfl rfl dX1_moveHunter_100 (fun H locs hC => ?_)
      obtain ⟨M8, eM8⟩ : ∃ z : Mem, z = wF M7 (5 + a1.toNatClampNeg) 3 (FP.fsub (gF M7 (5 + a1.toNatClampNeg) 3) FP.fconst1) := ⟨_, rfl⟩
      rw [← eM8] at hC
      have hT : sp_X1_moveHunter M a1 = sp_X1_moveHunter_n3 a1 M8 := by rw [eM8]; exact hT
      have hV : vc_X1_moveHunter_n3 a1 M8 := by rw [eM8]; exact hV
      refine lv_aload_n hx hb dX1_moveHunter_103 rfl (lv_at hl 2 rfl) ?_
      refine lv_bipush (v := 6) hx hb dX1_moveHunter_104 (by decide) ?_
      refine lv_iconst (v := 2) hx hb dX1_moveHunter_106 (by decide) ?_
      obtain ⟨v107, hV⟩ : (vc_X0_isAt M8 (5 + a1.toNatClampNeg) 6 2) ∧ (if (sp_X0_isAt M8 (5 + a1.toNatClampNeg) 6 2) = 0 then vc_X1_moveHunter_B118 a1 M8 else (vc_X1_moveHunter_n2 a1 (wI M8 (5 + a1.toNatClampNeg) 5 0))) := hV
      refine q_Ci (q_V (own := "MazeBoard$Game") (y := yX0_isAt) (As := [.int 6, .int 2]) (rest := []) ⟨hx, hb, hml, hown, hB⟩ hK hE hC (c_X0_isAt l D cy ad L H.size (hL.sub (by decide) (by decide)) M8 (5 + a1.toNatClampNeg) hq75_0 6 2 v107) (isA.sh hq75_0) (hL _ (Nat.le_trans (by decide) (hq75_0).1) (Nat.le_trans (hq75_0).2 (by decide))) rfl mw_2_148 mw_2_149 mw_2_150 mw_1_4 mw_2_151 rfl yd_X0_isAt ⟨rfl, rfl⟩ ⟨Nat.le_of_ble_eq_true rfl, Nat.le_of_ble_eq_true rfl⟩ rfl hl.1 rfl (Nat.le_of_ble_eq_true rfl) dX1_moveHunter_107 ⟨Nat.le_refl _, Nat.le_refl _⟩) hC (fun r N_ H locs hp hC => ?_)
      obtain ⟨hr_, hM_⟩ := hp
      subst hr_
      rw [hM_] at hC
      refine lv_if_eq (tgt := 118) hx hb dX1_moveHunter_110 (by decide) (fun c110 => ?_) (fun c110 => ?_)
      · have hT : sp_X1_moveHunter M a1 = sp_X1_moveHunter_B118 a1 M8 := hT.trans (if_pos c110)
        have hV : vc_X1_moveHunter_B118 a1 M8 := iteT hV c110
        exact J118 M8 _ _ _ hq75_0 hT hV hC (lv_sub hl [0, 1, 2] rfl)
      · have hT : sp_X1_moveHunter M a1 = sp_X1_moveHunter_n2 a1 (wI M8 (5 + a1.toNatClampNeg) 5 0) := hT.trans (if_neg c110)
        have hV : vc_X1_moveHunter_n2 a1 (wI M8 (5 + a1.toNatClampNeg) 5 0) := iteF hV c110
        refine lv_aload_n hx hb dX1_moveHunter_113 rfl (lv_at hl 2 rfl) ?_
        refine lv_iconst (v := 0) hx hb dX1_moveHunter_114 (by decide) ?_
        refine q_puti (T := TX0) hx hb hB uw_X0 tyX0 tyX0_ok nmX0 hown hK hC (isA.sh hq75_0) (hL _ (Nat.le_trans (by decide) (hq75_0).1) (Nat.le_trans (hq75_0).2 (by decide))) rfl 5 (by decide) rfl (hB _ mw_1_72) rfl rfl (by decide) (by decide) dX1_moveHunter_115 (fun H locs hC => ?_)
        obtain ⟨M9, eM9⟩ : ∃ z : Mem, z = wI M8 (5 + a1.toNatClampNeg) 5 0 := ⟨_, rfl⟩
        rw [← eM9] at hC
        have hT : sp_X1_moveHunter M a1 = sp_X1_moveHunter_n2 a1 M9 := by rw [eM9]; exact hT
        have hV : vc_X1_moveHunter_n2 a1 M9 := by rw [eM9]; exact hV
        exact J118 M9 _ _ _ hq75_0 hT hV hC (lv_sub hl [0, 1, 2] rfl)
    · have hT : sp_X1_moveHunter M a1 = M6 := hT.trans (if_neg c85)
      exact q_retv hx hb hr hlocks hC hT.symm dX1_moveHunter_88
  have J37 : ∀ (M4 : Mem) (H : Heap) (locs : List Loc) (ls : Array Slot) (hT : sp_X1_moveHunter M a1 = sp_X1_moveHunter_B37 M4) (hC : Cx D cy ad R0 L (fA ad L s.heap.size) s M4 H locs) (hl : lv_has ls 4 []), W p l e ({ frames := 4, cells := 0, slots := 0, locals := 95 }) s m ([.ref (ad 1), .int a1] : List Value).toArray below meth c H locs 0 0 (MQ below (va_Qv (fun N => N = sp_X1_moveHunter M a1) (OW D cy ad L s.heap.size) (fA ad L s.heap.size)) ([.ref (ad 1), .int a1] : List Value).toArray s 0 0 (fA ad L s.heap.size)) (F0 m 37 ls []) := by
    intro M4 H locs ls  hT hC hl
    have hT : sp_X1_moveHunter M a1 = M4 := hT
    exact q_retv hx hb hr hlocks hC hT.symm dX1_moveHunter_37
  have hT : sp_X1_moveHunter M a1 = if (gI M (5 + a1.toNatClampNeg) 6) ≤ 0 then (sp_X1_moveHunter_n6 M a1 (FP.fmul 1044549468 (FP.fadd FP.fconst1 (FP.fmul 1025758986 (FP.i2f (sp_J9_min_7cf53 (gI M 1 7) 5)))))) else (sp_X1_moveHunter_n8 a1 (wI M (5 + a1.toNatClampNeg) 6 ((gI M (5 + a1.toNatClampNeg) 6) - 1))) := rfl
  have hV : vp_in a1 5 ∧ (if (gI M (5 + a1.toNatClampNeg) 6) ≤ 0 then ((vf_n32 (FP.fmul 1025758986 (FP.i2f (sp_J9_min_7cf53 (gI M 1 7) 5)))) ∧ ((vf_n32 (FP.fadd FP.fconst1 (FP.fmul 1025758986 (FP.i2f (sp_J9_min_7cf53 (gI M 1 7) 5))))) ∧ ((vf_n32 (FP.fmul 1044549468 (FP.fadd FP.fconst1 (FP.fmul 1025758986 (FP.i2f (sp_J9_min_7cf53 (gI M 1 7) 5)))))) ∧ (vc_X1_moveHunter_n6 M a1 (FP.fmul 1044549468 (FP.fadd FP.fconst1 (FP.fmul 1025758986 (FP.i2f (sp_J9_min_7cf53 (gI M 1 7) 5))))))))) else (vc_X1_moveHunter_n8 a1 (wI M (5 + a1.toNatClampNeg) 6 ((gI M (5 + a1.toNatClampNeg) 6) - 1)))) := hV
  refine lv_aload_n hx hb dX1_moveHunter_0 rfl (lv_at hl 0 rfl) ?_
  refine q_getr (T := TX1) hx hb hB uw_X1 hown hK hC rfl (hL 1 (by decide) (by decide)) rfl 1 (by decide) rfl rfl (hB _ mw_1_129) dX1_moveHunter_1 ?_
  refine lv_iload_n hx hb dX1_moveHunter_4 rfl (lv_at hl 1 rfl) ?_
  obtain ⟨w5, hV⟩ : vp_in a1 5 ∧ (if (gI M (5 + a1.toNatClampNeg) 6) ≤ 0 then ((vf_n32 (FP.fmul 1025758986 (FP.i2f (sp_J9_min_7cf53 (gI M 1 7) 5)))) ∧ ((vf_n32 (FP.fadd FP.fconst1 (FP.fmul 1025758986 (FP.i2f (sp_J9_min_7cf53 (gI M 1 7) 5))))) ∧ ((vf_n32 (FP.fmul 1044549468 (FP.fadd FP.fconst1 (FP.fmul 1025758986 (FP.i2f (sp_J9_min_7cf53 (gI M 1 7) 5)))))) ∧ (vc_X1_moveHunter_n6 M a1 (FP.fmul 1044549468 (FP.fadd FP.fconst1 (FP.fmul 1025758986 (FP.i2f (sp_J9_min_7cf53 (gI M 1 7) 5))))))))) else (vc_X1_moveHunter_n8 a1 (wI M (5 + a1.toNatClampNeg) 6 ((gI M (5 + a1.toNatClampNeg) 6) - 1)))) := hV
  refine q_aald hx hb hK hC rfl (hL 4 (by decide) (by decide)) rfl w5 rfl dX1_moveHunter_5 ?_
  refine lv_astore_n (lv' := [(2, .ref (ad (5 + a1.toNatClampNeg))), (0, .ref (ad 1)), (1, .int a1)]) hx hb dX1_moveHunter_6 rfl hl (by decide) rfl (fun ls hl => ?_)
  refine lv_aload_n hx hb dX1_moveHunter_7 rfl (lv_at hl 0 rfl) ?_
  refine q_geti (T := TX0) hx hb hB uw_X0 hown hK hC (isA.sh (isA.of w5)) (hL _ (Nat.le_trans (by decide) ((isA.of w5)).1) (Nat.le_trans ((isA.of w5)).2 (by decide))) rfl 6 (by decide) rfl (hB _ mw_1_75) dX1_moveHunter_8 ?_
  refine lv_if_le (tgt := 38) hx hb dX1_moveHunter_11 (by decide) (fun c11 => ?_) (fun c11 => ?_)
  · have hT : sp_X1_moveHunter M a1 = sp_X1_moveHunter_n6 M a1 (FP.fmul 1044549468 (FP.fadd FP.fconst1 (FP.fmul 1025758986 (FP.i2f (sp_J9_min_7cf53 (gI M 1 7) 5))))) := hT.trans (if_pos c11)
    have hV : (vf_n32 (FP.fmul 1025758986 (FP.i2f (sp_J9_min_7cf53 (gI M 1 7) 5)))) ∧ ((vf_n32 (FP.fadd FP.fconst1 (FP.fmul 1025758986 (FP.i2f (sp_J9_min_7cf53 (gI M 1 7) 5))))) ∧ ((vf_n32 (FP.fmul 1044549468 (FP.fadd FP.fconst1 (FP.fmul 1025758986 (FP.i2f (sp_J9_min_7cf53 (gI M 1 7) 5)))))) ∧ (vc_X1_moveHunter_n6 M a1 (FP.fmul 1044549468 (FP.fadd FP.fconst1 (FP.fmul 1025758986 (FP.i2f (sp_J9_min_7cf53 (gI M 1 7) 5)))))))) := iteT hV c11
    refine lv_ldcf (v := 1044549468) hx hb hown (hB _ mw_2_146) dX1_moveHunter_38 ?_
    refine lv_fconst1 hx hb dX1_moveHunter_40 ?_
    refine lv_ldcf (v := 1025758986) hx hb hown (hB _ mw_2_147) dX1_moveHunter_41 ?_
    refine lv_aload_n hx hb dX1_moveHunter_43 rfl (lv_at hl 1 rfl) ?_
    refine q_geti (T := TX1) hx hb hB uw_X1 hown hK hC rfl (hL 1 (by decide) (by decide)) rfl 7 (by decide) rfl (hB _ mw_1_141) dX1_moveHunter_44 ?_
    refine lv_iconst (v := 5) hx hb dX1_moveHunter_47 (by decide) ?_
    refine q_Ci (q_S (own := "MazeBoard$Game") (y := yJ9_min_7cf53) (As := [.int (gI M 1 7), .int 5]) (rest := [.float 1025758986, .float FP.fconst1, .float 1044549468]) ⟨hx, hb, hml, hown, hB⟩ hK hE hC (c_J9_min_7cf53 l D cy ad L H.size M (gI M 1 7) 5) mw_2_58 mw_2_59 mw_1_8 mw_2_60 yd_J9_min_7cf53 ⟨rfl, rfl⟩ ⟨Nat.le_of_ble_eq_true rfl, Nat.le_of_ble_eq_true rfl⟩ rfl hl.1 rfl (Nat.le_of_ble_eq_true rfl) dX1_moveHunter_48 ⟨Nat.le_refl _, Nat.le_refl _⟩) hC (fun r N_ H locs hp hC => ?_)
    obtain ⟨hr_, hM_⟩ := hp
    subst hr_
    rw [hM_] at hC
    refine lv_i2f hx hb dX1_moveHunter_51 ?_
    obtain ⟨w52, hV⟩ : (vf_n32 (FP.fmul 1025758986 (FP.i2f (sp_J9_min_7cf53 (gI M 1 7) 5)))) ∧ ((vf_n32 (FP.fadd FP.fconst1 (FP.fmul 1025758986 (FP.i2f (sp_J9_min_7cf53 (gI M 1 7) 5))))) ∧ ((vf_n32 (FP.fmul 1044549468 (FP.fadd FP.fconst1 (FP.fmul 1025758986 (FP.i2f (sp_J9_min_7cf53 (gI M 1 7) 5)))))) ∧ (vc_X1_moveHunter_n6 M a1 (FP.fmul 1044549468 (FP.fadd FP.fconst1 (FP.fmul 1025758986 (FP.i2f (sp_J9_min_7cf53 (gI M 1 7) 5)))))))) := hV
    refine lv_fmul hx hb dX1_moveHunter_52 w52 ?_
    obtain ⟨w53, hV⟩ : (vf_n32 (FP.fadd FP.fconst1 (FP.fmul 1025758986 (FP.i2f (sp_J9_min_7cf53 (gI M 1 7) 5))))) ∧ ((vf_n32 (FP.fmul 1044549468 (FP.fadd FP.fconst1 (FP.fmul 1025758986 (FP.i2f (sp_J9_min_7cf53 (gI M 1 7) 5)))))) ∧ (vc_X1_moveHunter_n6 M a1 (FP.fmul 1044549468 (FP.fadd FP.fconst1 (FP.fmul 1025758986 (FP.i2f (sp_J9_min_7cf53 (gI M 1 7) 5))))))) := hV
    refine lv_fadd hx hb dX1_moveHunter_53 w53 ?_
    obtain ⟨w54, hV⟩ : (vf_n32 (FP.fmul 1044549468 (FP.fadd FP.fconst1 (FP.fmul 1025758986 (FP.i2f (sp_J9_min_7cf53 (gI M 1 7) 5)))))) ∧ (vc_X1_moveHunter_n6 M a1 (FP.fmul 1044549468 (FP.fadd FP.fconst1 (FP.fmul 1025758986 (FP.i2f (sp_J9_min_7cf53 (gI M 1 7) 5)))))) := hV
    refine lv_fmul hx hb dX1_moveHunter_54 w54 ?_
    refine lv_topf (fun f1 ef1 => ?_)
    have hT : sp_X1_moveHunter M a1 = sp_X1_moveHunter_n6 M a1 f1 := by rw [ef1]; exact hT
    have hV : vc_X1_moveHunter_n6 M a1 f1 := by rw [ef1]; exact hV
    refine lv_fstore_n (lv' := [(3, .float f1), (2, .ref (ad (5 + a1.toNatClampNeg))), (0, .ref (ad 1)), (1, .int a1)]) hx hb dX1_moveHunter_55 rfl hl (by decide) rfl (fun ls hl => ?_)
    refine lv_aload_n hx hb dX1_moveHunter_56 rfl (lv_at hl 1 rfl) ?_
    refine lv_aload_n hx hb dX1_moveHunter_57 rfl (lv_at hl 1 rfl) ?_
    refine q_getf (T := TX0) hx hb hB uw_X0 hown hK hC (isA.sh (isA.of w5)) (hL _ (Nat.le_trans (by decide) ((isA.of w5)).1) (Nat.le_trans ((isA.of w5)).2 (by decide))) rfl 3 (by decide) rfl (hB _ mw_1_63) dX1_moveHunter_58 ?_
    refine lv_aload_n hx hb dX1_moveHunter_61 rfl (lv_at hl 1 rfl) ?_
    refine q_geti (T := TX0) hx hb hB uw_X0 hown hK hC (isA.sh (isA.of w5)) (hL _ (Nat.le_trans (by decide) ((isA.of w5)).1) (Nat.le_trans ((isA.of w5)).2 (by decide))) rfl 4 (by decide) rfl (hB _ mw_1_67) dX1_moveHunter_62 ?_
    refine lv_if_eq (tgt := 74) hx hb dX1_moveHunter_65 (by decide) (fun c65 => ?_) (fun c65 => ?_)
    · have hT : sp_X1_moveHunter M a1 = sp_X1_moveHunter_B75 M a1 f1 := hT.trans (if_pos c65)
      have hV : vc_X1_moveHunter_B75 M a1 f1 := iteT hV c65
      refine lv_fload_n hx hb dX1_moveHunter_74 rfl (lv_at hl 0 rfl) ?_
      exact J75 f1 _ _ _ (isA.of w5) hT hV hC (lv_sub hl [2, 3, 1] rfl)
    · have hT : sp_X1_moveHunter M a1 = sp_X1_moveHunter_B75 M a1 (FP.fdiv f1 FP.fconst2) := hT.trans (if_neg c65)
      have hV : (vf_n32 (FP.fdiv f1 FP.fconst2)) ∧ (vc_X1_moveHunter_B75 M a1 (FP.fdiv f1 FP.fconst2)) := iteF hV c65
      refine lv_fload_n hx hb dX1_moveHunter_68 rfl (lv_at hl 0 rfl) ?_
      refine lv_fconst2 hx hb dX1_moveHunter_69 ?_
      obtain ⟨w70, hV⟩ : (vf_n32 (FP.fdiv f1 FP.fconst2)) ∧ (vc_X1_moveHunter_B75 M a1 (FP.fdiv f1 FP.fconst2)) := hV
      refine lv_fdiv hx hb dX1_moveHunter_70 w70 ?_
      refine lv_goto (tgt := 75) hx hb dX1_moveHunter_71 (by decide) ?_
      exact J75 (FP.fdiv f1 FP.fconst2) _ _ _ (isA.of w5) hT hV hC (lv_sub hl [2, 3, 1] rfl)
  · have hT : sp_X1_moveHunter M a1 = sp_X1_moveHunter_n8 a1 (wI M (5 + a1.toNatClampNeg) 6 ((gI M (5 + a1.toNatClampNeg) 6) - 1)) := hT.trans (if_neg c11)
    have hV : vc_X1_moveHunter_n8 a1 (wI M (5 + a1.toNatClampNeg) 6 ((gI M (5 + a1.toNatClampNeg) 6) - 1)) := iteF hV c11
    refine lv_aload_n hx hb dX1_moveHunter_14 rfl (lv_at hl 0 rfl) ?_
    refine lv_dup hx hb dX1_moveHunter_15 rfl ?_
    refine q_geti (T := TX0) hx hb hB uw_X0 hown hK hC (isA.sh (isA.of w5)) (hL _ (Nat.le_trans (by decide) ((isA.of w5)).1) (Nat.le_trans ((isA.of w5)).2 (by decide))) rfl 6 (by decide) rfl (hB _ mw_1_75) dX1_moveHunter_16 ?_
    refine lv_iconst (v := 1) hx hb dX1_moveHunter_19 (by decide) ?_
    refine lv_isub hx hb dX1_moveHunter_20 ?_
    refine q_puti (T := TX0) hx hb hB uw_X0 tyX0 tyX0_ok nmX0 hown hK hC (isA.sh (isA.of w5)) (hL _ (Nat.le_trans (by decide) ((isA.of w5)).1) (Nat.le_trans ((isA.of w5)).2 (by decide))) rfl 6 (by decide) rfl (hB _ mw_1_75) rfl rfl rfl rfl dX1_moveHunter_21 (fun H locs hC => ?_)
    obtain ⟨M2, eM2⟩ : ∃ z : Mem, z = wI M (5 + a1.toNatClampNeg) 6 ((gI M (5 + a1.toNatClampNeg) 6) - 1) := ⟨_, rfl⟩
    rw [← eM2] at hC
    have hT : sp_X1_moveHunter M a1 = sp_X1_moveHunter_n8 a1 M2 := by rw [eM2]; exact hT
    have hV : vc_X1_moveHunter_n8 a1 M2 := by rw [eM2]; exact hV
    refine lv_aload_n hx hb dX1_moveHunter_24 rfl (lv_at hl 0 rfl) ?_
    refine q_geti (T := TX0) hx hb hB uw_X0 hown hK hC (isA.sh (isA.of w5)) (hL _ (Nat.le_trans (by decide) ((isA.of w5)).1) (Nat.le_trans ((isA.of w5)).2 (by decide))) rfl 6 (by decide) rfl (hB _ mw_1_75) dX1_moveHunter_25 ?_
    refine lv_if_ne (tgt := 37) hx hb dX1_moveHunter_28 (by decide) (fun c28 => ?_) (fun c28 => ?_)
    · have hT : sp_X1_moveHunter M a1 = sp_X1_moveHunter_B37 M2 := hT.trans (if_neg c28)
      exact J37 M2 _ _ _  hT hC (lv_sub hl [] rfl)
    · have hT : sp_X1_moveHunter M a1 = sp_X1_moveHunter_n7 (sp_X1_chooseDirection M2 (5 + a1.toNatClampNeg) a1) := hT.trans (if_pos c28)
      have hV : (vc_X1_chooseDirection M2 (5 + a1.toNatClampNeg) a1) := iteT hV c28
      refine lv_aload_n hx hb dX1_moveHunter_31 rfl (lv_at hl 1 rfl) ?_
      refine lv_aload_n hx hb dX1_moveHunter_32 rfl (lv_at hl 0 rfl) ?_
      refine lv_iload_n hx hb dX1_moveHunter_33 rfl (lv_at hl 2 rfl) ?_
      have v34 : vc_X1_chooseDirection M2 (5 + a1.toNatClampNeg) a1 := hV
      refine q_Cv (q_V (own := "MazeBoard$Game") (y := yX1_chooseDirection) (As := [.ref (ad (5 + a1.toNatClampNeg)), .int a1]) (rest := []) ⟨hx, hb, hml, hown, hB⟩ hK hE hC (c_X1_chooseDirection l D cy ad L H.size (hL.sub (by decide) (by decide)) M2 (5 + a1.toNatClampNeg) (isA.of w5) a1 v34) rfl (hL 1 (by decide) (by decide)) rfl mw_2_97 mw_2_99 mw_0_10 mw_1_2 mw_2_100 rfl yd_X1_chooseDirection ⟨rfl, rfl⟩ ⟨Nat.le_of_ble_eq_true rfl, Nat.le_of_ble_eq_true rfl⟩ rfl hl.1 rfl (Nat.le_of_ble_eq_true rfl) dX1_moveHunter_34 ⟨Nat.le_refl _, Nat.le_refl _⟩) hC (fun M3 H locs eM3 hC => ?_)
      have hT : sp_X1_moveHunter M a1 = sp_X1_moveHunter_n7 M3 := by rw [eM3]; exact hT
      exact J37 M3 _ _ _  hT hC (lv_sub hl [] rfl)
set_option maxHeartbeats 4000000 in
set_option maxRecDepth 100000 in
theorem c_X1_isStickOpen (l : Launch) (D : va_G) (cy ad : Nat → Nat) (L : List Nat) (sz : Nat) (hL : lr 1 9 L) (M : Mem) (a1 : Int32) (hV : vc_X1_isStickOpen M a1) : Met l yX1_isStickOpen (Cond.code yX1_isStickOpen cX1_isStickOpen 2 (some .boolean) :: BG) ({ frames := 2, cells := 0, slots := 0, locals := 45 }) (va_Pc [.ref (ad 1), .int a1] (PW D cy ad L M sz)) (va_Qi (fun r N => r = sp_X1_isStickOpen M a1 ∧ N = M) (OW D cy ad L sz) (fA ad L sz)) 0 0 (fA ad L sz) := by
  refine q_start (by decide) (Nat.le_of_ble_eq_true rfl) (fun p e s m below meth c H locs ls hsz hx hb hr hlocks hml hown hB hK hE hC hl => ?_)
  subst hsz
  have hown : s.vm.findClass "MazeBoard$Game" = some m.cls := hown
  have hl : lv_has ls 2 [(0, .ref (ad 1)), (1, .int a1)] := hl
  have J25 : ∀ (x1 : Int32) (H : Heap) (locs : List Loc) (ls : Array Slot) (hT : sp_X1_isStickOpen M a1 = sp_X1_isStickOpen_B25 x1) (hV : vc_X1_isStickOpen_B25 x1) (hC : Cx D cy ad R0 L (fA ad L s.heap.size) s M H locs) (hl : lv_has ls 2 []), W p l e ({ frames := 2, cells := 0, slots := 0, locals := 45 }) s m ([.ref (ad 1), .int a1] : List Value).toArray below meth c H locs 0 0 (MQ below (va_Qi (fun r N => r = sp_X1_isStickOpen M a1 ∧ N = M) (OW D cy ad L s.heap.size) (fA ad L s.heap.size)) ([.ref (ad 1), .int a1] : List Value).toArray s 0 0 (fA ad L s.heap.size)) (F0 m 25 ls [.int x1]) := by
    intro x1 H locs ls  hT hV hC hl
    have hT : sp_X1_isStickOpen M a1 = x1 := hT
    have hV : (x1 = 0 ∨ x1 = 1) := hV
    have w25 : x1 = 0 ∨ x1 = 1 := hV
    exact q_retz hx hb hr hlocks hC w25 ⟨hT.symm, rfl⟩ dX1_isStickOpen_25
  have J24 : ∀  (H : Heap) (locs : List Loc) (ls : Array Slot) (hT : sp_X1_isStickOpen M a1 = sp_X1_isStickOpen_B24 ) (hV : vc_X1_isStickOpen_B24 ) (hC : Cx D cy ad R0 L (fA ad L s.heap.size) s M H locs) (hl : lv_has ls 2 []), W p l e ({ frames := 2, cells := 0, slots := 0, locals := 45 }) s m ([.ref (ad 1), .int a1] : List Value).toArray below meth c H locs 0 0 (MQ below (va_Qi (fun r N => r = sp_X1_isStickOpen M a1 ∧ N = M) (OW D cy ad L s.heap.size) (fA ad L s.heap.size)) ([.ref (ad 1), .int a1] : List Value).toArray s 0 0 (fA ad L s.heap.size)) (F0 m 24 ls []) := by
    intro  H locs ls  hT hV hC hl
    have hT : sp_X1_isStickOpen M a1 = sp_X1_isStickOpen_B25 0 := hT
    have hV : vc_X1_isStickOpen_B25 0 := hV
    refine lv_iconst (v := 0) hx hb dX1_isStickOpen_24 (by decide) ?_
    exact J25 0 _ _ _  hT hV hC (lv_sub hl [] rfl)
  have hT : sp_X1_isStickOpen M a1 = if a1 = (-1) then sp_X1_isStickOpen_B24 else (if (sp_X2_isOpen M 5 a1) = 0 then sp_X1_isStickOpen_B24 else (sp_X1_isStickOpen_B25 1)) := rfl
  have hV : if a1 = (-1) then vc_X1_isStickOpen_B24 else (vc_X2_isOpen M 5 a1 ∧ (if (sp_X2_isOpen M 5 a1) = 0 then vc_X1_isStickOpen_B24 else vc_X1_isStickOpen_B25 1)) := hV
  refine lv_iload_n hx hb dX1_isStickOpen_0 rfl (lv_at hl 1 rfl) ?_
  refine lv_iconst (v := (-1)) hx hb dX1_isStickOpen_1 (by decide) ?_
  refine lv_icmp_eq (tgt := 24) hx hb dX1_isStickOpen_2 (by decide) (fun c2 => ?_) (fun c2 => ?_)
  · have hT : sp_X1_isStickOpen M a1 = sp_X1_isStickOpen_B24 := hT.trans (if_pos c2)
    have hV : vc_X1_isStickOpen_B24 := iteT hV c2
    exact J24  _ _ _  hT hV hC (lv_sub hl [] rfl)
  · have hT : sp_X1_isStickOpen M a1 = if (sp_X2_isOpen M 5 a1) = 0 then sp_X1_isStickOpen_B24 else (sp_X1_isStickOpen_B25 1) := hT.trans (if_neg c2)
    have hV : vc_X2_isOpen M 5 a1 ∧ (if (sp_X2_isOpen M 5 a1) = 0 then vc_X1_isStickOpen_B24 else vc_X1_isStickOpen_B25 1) := iteF hV c2
    refine lv_aload_n hx hb dX1_isStickOpen_5 rfl (lv_at hl 0 rfl) ?_
    refine q_getr (T := TX1) hx hb hB uw_X1 hown hK hC rfl (hL 1 (by decide) (by decide)) rfl 0 (by decide) rfl rfl (hB _ mw_1_127) dX1_isStickOpen_6 ?_
    refine lv_aload_n hx hb dX1_isStickOpen_9 rfl (lv_at hl 0 rfl) ?_
    refine q_getr (T := TX1) hx hb hB uw_X1 hown hK hC rfl (hL 1 (by decide) (by decide)) rfl 2 (by decide) rfl rfl (hB _ mw_1_131) dX1_isStickOpen_10 ?_
    refine lv_iload_n hx hb dX1_isStickOpen_13 rfl (lv_at hl 1 rfl) ?_
    obtain ⟨v14, hV⟩ : vc_X2_isOpen M 5 a1 ∧ (if (sp_X2_isOpen M 5 a1) = 0 then vc_X1_isStickOpen_B24 else vc_X1_isStickOpen_B25 1) := hV
    refine q_Ci (q_V (own := "MazeBoard$Game") (y := yX2_isOpen) (As := [.ref (ad 5), .int a1]) (rest := []) ⟨hx, hb, hml, hown, hB⟩ hK hE hC (c_X2_isOpen l D cy ad L H.size (hL.sub (by decide) (by decide)) M 5 (⟨by decide, by decide⟩) a1 v14) rfl (hL 2 (by decide) (by decide)) rfl mw_2_42 mw_2_43 mw_2_44 mw_1_3 mw_2_45 rfl yd_X2_isOpen ⟨rfl, rfl⟩ ⟨Nat.le_of_ble_eq_true rfl, Nat.le_of_ble_eq_true rfl⟩ rfl hl.1 rfl (Nat.le_of_ble_eq_true rfl) dX1_isStickOpen_14 ⟨Nat.le_refl _, Nat.le_refl _⟩) hC (fun r N_ H locs hp hC => ?_)
    obtain ⟨hr_, hM_⟩ := hp
    subst hr_
    rw [hM_] at hC
    refine lv_if_eq (tgt := 24) hx hb dX1_isStickOpen_17 (by decide) (fun c17 => ?_) (fun c17 => ?_)
    · have hT : sp_X1_isStickOpen M a1 = sp_X1_isStickOpen_B24 := hT.trans (if_pos c17)
      have hV : vc_X1_isStickOpen_B24 := iteT hV c17
      exact J24  _ _ _  hT hV hC (lv_sub hl [] rfl)
    · have hT : sp_X1_isStickOpen M a1 = sp_X1_isStickOpen_B25 1 := hT.trans (if_neg c17)
      have hV : vc_X1_isStickOpen_B25 1 := iteF hV c17
      refine lv_iconst (v := 1) hx hb dX1_isStickOpen_20 (by decide) ?_
      refine lv_goto (tgt := 25) hx hb dX1_isStickOpen_21 (by decide) ?_
      exact J25 1 _ _ _  hT hV hC (lv_sub hl [] rfl)
set_option maxHeartbeats 4000000 in
set_option maxRecDepth 100000 in
theorem c_X1_movePlayer (l : Launch) (D : va_G) (cy ad : Nat → Nat) (L : List Nat) (sz : Nat) (hL : lr 1 9 L) (M : Mem) (a1 : Int32) (hV : vc_X1_movePlayer M a1) : Met l yX1_movePlayer (Cond.code yX1_movePlayer cX1_movePlayer 2 (some .boolean) :: BG) ({ frames := 3, cells := 0, slots := 0, locals := 66 }) (va_Pc [.ref (ad 1), .int a1] (PW D cy ad L M sz)) (va_Qi (fun r N => r = (sp_X1_movePlayer M a1).1 ∧ N = (sp_X1_movePlayer M a1).2) (OW D cy ad L sz) (fA ad L sz)) 0 0 (fA ad L sz) := by
  refine q_start (by decide) (Nat.le_of_ble_eq_true rfl) (fun p e s m below meth c H locs ls hsz hx hb hr hlocks hml hown hB hK hE hC hl => ?_)
  subst hsz
  have hown : s.vm.findClass "MazeBoard$Game" = some m.cls := hown
  have hl : lv_has ls 2 [(0, .ref (ad 1)), (1, .int a1)] := hl
  have J165 : ∀ (M8 : Mem) (H : Heap) (locs : List Loc) (ls : Array Slot) (hT : sp_X1_movePlayer M a1 = sp_X1_movePlayer_B165 M8) (hC : Cx D cy ad R0 L (fA ad L s.heap.size) s M8 H locs) (hl : lv_has ls 2 []), W p l e ({ frames := 3, cells := 0, slots := 0, locals := 66 }) s m ([.ref (ad 1), .int a1] : List Value).toArray below meth c H locs 0 0 (MQ below (va_Qi (fun r N => r = (sp_X1_movePlayer M a1).1 ∧ N = (sp_X1_movePlayer M a1).2) (OW D cy ad L s.heap.size) (fA ad L s.heap.size)) ([.ref (ad 1), .int a1] : List Value).toArray s 0 0 (fA ad L s.heap.size)) (F0 m 165 ls []) := by
    intro M8 H locs ls  hT hC hl
    have hT : sp_X1_movePlayer M a1 = (1, M8) := hT
    refine lv_iconst (v := 1) hx hb dX1_movePlayer_165 (by decide) ?_
    exact q_retz hx hb hr hlocks hC (by decide) ⟨(congrArg Prod.fst hT).symm, (congrArg Prod.snd hT).symm⟩ dX1_movePlayer_166
  have J157 : ∀ (M5 : Mem) (H : Heap) (locs : List Loc) (ls : Array Slot) (hT : sp_X1_movePlayer M a1 = sp_X1_movePlayer_B157 M5) (hC : Cx D cy ad R0 L (fA ad L s.heap.size) s M5 H locs) (hl : lv_has ls 2 [(0, .ref (ad 1))]), W p l e ({ frames := 3, cells := 0, slots := 0, locals := 66 }) s m ([.ref (ad 1), .int a1] : List Value).toArray below meth c H locs 0 0 (MQ below (va_Qi (fun r N => r = (sp_X1_movePlayer M a1).1 ∧ N = (sp_X1_movePlayer M a1).2) (OW D cy ad L s.heap.size) (fA ad L s.heap.size)) ([.ref (ad 1), .int a1] : List Value).toArray s 0 0 (fA ad L s.heap.size)) (F0 m 157 ls []) := by
    intro M5 H locs ls  hT hC hl
    have hT : sp_X1_movePlayer M a1 = sp_X1_movePlayer_n1 (wF M5 5 3 FP.fconst0) := hT
    refine lv_aload_n hx hb dX1_movePlayer_157 rfl (lv_at hl 0 rfl) ?_
    refine q_getr (T := TX1) hx hb hB uw_X1 hown hK hC rfl (hL 1 (by decide) (by decide)) rfl 2 (by decide) rfl rfl (hB _ mw_1_131) dX1_movePlayer_158 ?_
    refine lv_fconst0 hx hb dX1_movePlayer_161 ?_
    refine q_putf (T := TX0) hx hb hB uw_X0 tyX0 tyX0_ok nmX0 hown hK hC rfl (hL 5 (by decide) (by decide)) rfl 3 (by decide) rfl (hB _ mw_1_63) rfl rfl dX1_movePlayer_162 (fun H locs hC => ?_)
    obtain ⟨M7, eM7⟩ : ∃ z : Mem, z = wF M5 5 3 FP.fconst0 := ⟨_, rfl⟩
    rw [← eM7] at hC
    have hT : sp_X1_movePlayer M a1 = sp_X1_movePlayer_n1 M7 := by rw [eM7]; exact hT
    exact J165 M7 _ _ _  hT hC (lv_sub hl [] rfl)
  have J28 : ∀ (M2 : Mem) (H : Heap) (locs : List Loc) (ls : Array Slot) (hT : sp_X1_movePlayer M a1 = sp_X1_movePlayer_B28 a1 M2) (hV : vc_X1_movePlayer_B28 a1 M2) (hC : Cx D cy ad R0 L (fA ad L s.heap.size) s M2 H locs) (hl : lv_has ls 2 [(0, .ref (ad 1)), (1, .int a1)]), W p l e ({ frames := 3, cells := 0, slots := 0, locals := 66 }) s m ([.ref (ad 1), .int a1] : List Value).toArray below meth c H locs 0 0 (MQ below (va_Qi (fun r N => r = (sp_X1_movePlayer M a1).1 ∧ N = (sp_X1_movePlayer M a1).2) (OW D cy ad L s.heap.size) (fA ad L s.heap.size)) ([.ref (ad 1), .int a1] : List Value).toArray s 0 0 (fA ad L s.heap.size)) (F0 m 28 ls []) := by
    intro M2 H locs ls  hT hV hC hl
    have hT : sp_X1_movePlayer M a1 = if (sp_X2_isOpen M2 5 (gI M2 5 2)) = 0 then (sp_X1_movePlayer_n2 (wF M2 5 3 FP.fconst0)) else (sp_X1_movePlayer_n5 a1 (wF M2 5 3 (FP.fadd (gF M2 5 3) (FP.fmul 1045220557 (FP.fadd FP.fconst1 (FP.fmul 1028443341 (FP.i2f (sp_J9_min_7cf53 (gI M2 1 7) 4)))))))) := hT
    have hV : (vc_X2_isOpen M2 5 (gI M2 5 2)) ∧ (if (sp_X2_isOpen M2 5 (gI M2 5 2)) = 0 then True else ((vf_n32 (FP.fmul 1028443341 (FP.i2f (sp_J9_min_7cf53 (gI M2 1 7) 4)))) ∧ ((vf_n32 (FP.fadd FP.fconst1 (FP.fmul 1028443341 (FP.i2f (sp_J9_min_7cf53 (gI M2 1 7) 4))))) ∧ ((vf_n32 (FP.fmul 1045220557 (FP.fadd FP.fconst1 (FP.fmul 1028443341 (FP.i2f (sp_J9_min_7cf53 (gI M2 1 7) 4)))))) ∧ ((vf_n32 (FP.fadd (gF M2 5 3) (FP.fmul 1045220557 (FP.fadd FP.fconst1 (FP.fmul 1028443341 (FP.i2f (sp_J9_min_7cf53 (gI M2 1 7) 4))))))) ∧ (vc_X1_movePlayer_n5 a1 (wF M2 5 3 (FP.fadd (gF M2 5 3) (FP.fmul 1045220557 (FP.fadd FP.fconst1 (FP.fmul 1028443341 (FP.i2f (sp_J9_min_7cf53 (gI M2 1 7) 4))))))))))))) := hV
    refine lv_aload_n hx hb dX1_movePlayer_28 rfl (lv_at hl 0 rfl) ?_
    refine q_getr (T := TX1) hx hb hB uw_X1 hown hK hC rfl (hL 1 (by decide) (by decide)) rfl 0 (by decide) rfl rfl (hB _ mw_1_127) dX1_movePlayer_29 ?_
    refine lv_aload_n hx hb dX1_movePlayer_32 rfl (lv_at hl 0 rfl) ?_
    refine q_getr (T := TX1) hx hb hB uw_X1 hown hK hC rfl (hL 1 (by decide) (by decide)) rfl 2 (by decide) rfl rfl (hB _ mw_1_131) dX1_movePlayer_33 ?_
    refine lv_aload_n hx hb dX1_movePlayer_36 rfl (lv_at hl 0 rfl) ?_
    refine q_getr (T := TX1) hx hb hB uw_X1 hown hK hC rfl (hL 1 (by decide) (by decide)) rfl 2 (by decide) rfl rfl (hB _ mw_1_131) dX1_movePlayer_37 ?_
    refine q_geti (T := TX0) hx hb hB uw_X0 hown hK hC rfl (hL 5 (by decide) (by decide)) rfl 2 (by decide) rfl (hB _ mw_1_60) dX1_movePlayer_40 ?_
    obtain ⟨v43, hV⟩ : (vc_X2_isOpen M2 5 (gI M2 5 2)) ∧ (if (sp_X2_isOpen M2 5 (gI M2 5 2)) = 0 then True else ((vf_n32 (FP.fmul 1028443341 (FP.i2f (sp_J9_min_7cf53 (gI M2 1 7) 4)))) ∧ ((vf_n32 (FP.fadd FP.fconst1 (FP.fmul 1028443341 (FP.i2f (sp_J9_min_7cf53 (gI M2 1 7) 4))))) ∧ ((vf_n32 (FP.fmul 1045220557 (FP.fadd FP.fconst1 (FP.fmul 1028443341 (FP.i2f (sp_J9_min_7cf53 (gI M2 1 7) 4)))))) ∧ ((vf_n32 (FP.fadd (gF M2 5 3) (FP.fmul 1045220557 (FP.fadd FP.fconst1 (FP.fmul 1028443341 (FP.i2f (sp_J9_min_7cf53 (gI M2 1 7) 4))))))) ∧ (vc_X1_movePlayer_n5 a1 (wF M2 5 3 (FP.fadd (gF M2 5 3) (FP.fmul 1045220557 (FP.fadd FP.fconst1 (FP.fmul 1028443341 (FP.i2f (sp_J9_min_7cf53 (gI M2 1 7) 4))))))))))))) := hV
    refine q_Ci (q_V (own := "MazeBoard$Game") (y := yX2_isOpen) (As := [.ref (ad 5), .int (gI M2 5 2)]) (rest := []) ⟨hx, hb, hml, hown, hB⟩ hK hE hC (c_X2_isOpen l D cy ad L H.size (hL.sub (by decide) (by decide)) M2 5 (⟨by decide, by decide⟩) (gI M2 5 2) v43) rfl (hL 2 (by decide) (by decide)) rfl mw_2_42 mw_2_43 mw_2_44 mw_1_3 mw_2_45 rfl yd_X2_isOpen ⟨rfl, rfl⟩ ⟨Nat.le_of_ble_eq_true rfl, Nat.le_of_ble_eq_true rfl⟩ rfl hl.1 rfl (Nat.le_of_ble_eq_true rfl) dX1_movePlayer_43 ⟨Nat.le_refl _, Nat.le_refl _⟩) hC (fun r N_ H locs hp hC => ?_)
    obtain ⟨hr_, hM_⟩ := hp
    subst hr_
    rw [hM_] at hC
    refine lv_if_ne (tgt := 59) hx hb dX1_movePlayer_46 (by decide) (fun c46 => ?_) (fun c46 => ?_)
    · have hT : sp_X1_movePlayer M a1 = sp_X1_movePlayer_n5 a1 (wF M2 5 3 (FP.fadd (gF M2 5 3) (FP.fmul 1045220557 (FP.fadd FP.fconst1 (FP.fmul 1028443341 (FP.i2f (sp_J9_min_7cf53 (gI M2 1 7) 4))))))) := hT.trans (if_neg c46)
      have hV : (vf_n32 (FP.fmul 1028443341 (FP.i2f (sp_J9_min_7cf53 (gI M2 1 7) 4)))) ∧ ((vf_n32 (FP.fadd FP.fconst1 (FP.fmul 1028443341 (FP.i2f (sp_J9_min_7cf53 (gI M2 1 7) 4))))) ∧ ((vf_n32 (FP.fmul 1045220557 (FP.fadd FP.fconst1 (FP.fmul 1028443341 (FP.i2f (sp_J9_min_7cf53 (gI M2 1 7) 4)))))) ∧ ((vf_n32 (FP.fadd (gF M2 5 3) (FP.fmul 1045220557 (FP.fadd FP.fconst1 (FP.fmul 1028443341 (FP.i2f (sp_J9_min_7cf53 (gI M2 1 7) 4))))))) ∧ (vc_X1_movePlayer_n5 a1 (wF M2 5 3 (FP.fadd (gF M2 5 3) (FP.fmul 1045220557 (FP.fadd FP.fconst1 (FP.fmul 1028443341 (FP.i2f (sp_J9_min_7cf53 (gI M2 1 7) 4))))))))))) := iteF hV c46
      refine lv_aload_n hx hb dX1_movePlayer_59 rfl (lv_at hl 0 rfl) ?_
      refine q_getr (T := TX1) hx hb hB uw_X1 hown hK hC rfl (hL 1 (by decide) (by decide)) rfl 2 (by decide) rfl rfl (hB _ mw_1_131) dX1_movePlayer_60 ?_
      refine lv_aload_n hx hb dX1_movePlayer_63 rfl (lv_at hl 0 rfl) ?_
      refine q_getr (T := TX1) hx hb hB uw_X1 hown hK hC rfl (hL 1 (by decide) (by decide)) rfl 2 (by decide) rfl rfl (hB _ mw_1_131) dX1_movePlayer_64 ?_
      refine q_getf (T := TX0) hx hb hB uw_X0 hown hK hC rfl (hL 5 (by decide) (by decide)) rfl 3 (by decide) rfl (hB _ mw_1_63) dX1_movePlayer_67 ?_
      refine lv_ldcf (v := 1045220557) hx hb hown (hB _ mw_2_56) dX1_movePlayer_70 ?_
      refine lv_fconst1 hx hb dX1_movePlayer_72 ?_
      refine lv_ldcf (v := 1028443341) hx hb hown (hB _ mw_2_57) dX1_movePlayer_73 ?_
      refine lv_aload_n hx hb dX1_movePlayer_75 rfl (lv_at hl 0 rfl) ?_
      refine q_geti (T := TX1) hx hb hB uw_X1 hown hK hC rfl (hL 1 (by decide) (by decide)) rfl 7 (by decide) rfl (hB _ mw_1_141) dX1_movePlayer_76 ?_
      refine lv_iconst (v := 4) hx hb dX1_movePlayer_79 (by decide) ?_
      refine q_Ci (q_S (own := "MazeBoard$Game") (y := yJ9_min_7cf53) (As := [.int (gI M2 1 7), .int 4]) (rest := [.float 1028443341, .float FP.fconst1, .float 1045220557, .float (gF M2 5 3), .ref (ad 5)]) ⟨hx, hb, hml, hown, hB⟩ hK hE hC (c_J9_min_7cf53 l D cy ad L H.size M2 (gI M2 1 7) 4) mw_2_58 mw_2_59 mw_1_8 mw_2_60 yd_J9_min_7cf53 ⟨rfl, rfl⟩ ⟨Nat.le_of_ble_eq_true rfl, Nat.le_of_ble_eq_true rfl⟩ rfl hl.1 rfl (Nat.le_of_ble_eq_true rfl) dX1_movePlayer_80 ⟨Nat.le_refl _, Nat.le_refl _⟩) hC (fun r N_ H locs hp hC => ?_)
      obtain ⟨hr_, hM_⟩ := hp
      subst hr_
      rw [hM_] at hC
      refine lv_i2f hx hb dX1_movePlayer_83 ?_
      obtain ⟨w84, hV⟩ : (vf_n32 (FP.fmul 1028443341 (FP.i2f (sp_J9_min_7cf53 (gI M2 1 7) 4)))) ∧ ((vf_n32 (FP.fadd FP.fconst1 (FP.fmul 1028443341 (FP.i2f (sp_J9_min_7cf53 (gI M2 1 7) 4))))) ∧ ((vf_n32 (FP.fmul 1045220557 (FP.fadd FP.fconst1 (FP.fmul 1028443341 (FP.i2f (sp_J9_min_7cf53 (gI M2 1 7) 4)))))) ∧ ((vf_n32 (FP.fadd (gF M2 5 3) (FP.fmul 1045220557 (FP.fadd FP.fconst1 (FP.fmul 1028443341 (FP.i2f (sp_J9_min_7cf53 (gI M2 1 7) 4))))))) ∧ (vc_X1_movePlayer_n5 a1 (wF M2 5 3 (FP.fadd (gF M2 5 3) (FP.fmul 1045220557 (FP.fadd FP.fconst1 (FP.fmul 1028443341 (FP.i2f (sp_J9_min_7cf53 (gI M2 1 7) 4))))))))))) := hV
      refine lv_fmul hx hb dX1_movePlayer_84 w84 ?_
      obtain ⟨w85, hV⟩ : (vf_n32 (FP.fadd FP.fconst1 (FP.fmul 1028443341 (FP.i2f (sp_J9_min_7cf53 (gI M2 1 7) 4))))) ∧ ((vf_n32 (FP.fmul 1045220557 (FP.fadd FP.fconst1 (FP.fmul 1028443341 (FP.i2f (sp_J9_min_7cf53 (gI M2 1 7) 4)))))) ∧ ((vf_n32 (FP.fadd (gF M2 5 3) (FP.fmul 1045220557 (FP.fadd FP.fconst1 (FP.fmul 1028443341 (FP.i2f (sp_J9_min_7cf53 (gI M2 1 7) 4))))))) ∧ (vc_X1_movePlayer_n5 a1 (wF M2 5 3 (FP.fadd (gF M2 5 3) (FP.fmul 1045220557 (FP.fadd FP.fconst1 (FP.fmul 1028443341 (FP.i2f (sp_J9_min_7cf53 (gI M2 1 7) 4)))))))))) := hV
      refine lv_fadd hx hb dX1_movePlayer_85 w85 ?_
      obtain ⟨w86, hV⟩ : (vf_n32 (FP.fmul 1045220557 (FP.fadd FP.fconst1 (FP.fmul 1028443341 (FP.i2f (sp_J9_min_7cf53 (gI M2 1 7) 4)))))) ∧ ((vf_n32 (FP.fadd (gF M2 5 3) (FP.fmul 1045220557 (FP.fadd FP.fconst1 (FP.fmul 1028443341 (FP.i2f (sp_J9_min_7cf53 (gI M2 1 7) 4))))))) ∧ (vc_X1_movePlayer_n5 a1 (wF M2 5 3 (FP.fadd (gF M2 5 3) (FP.fmul 1045220557 (FP.fadd FP.fconst1 (FP.fmul 1028443341 (FP.i2f (sp_J9_min_7cf53 (gI M2 1 7) 4))))))))) := hV
      refine lv_fmul hx hb dX1_movePlayer_86 w86 ?_
      obtain ⟨w87, hV⟩ : (vf_n32 (FP.fadd (gF M2 5 3) (FP.fmul 1045220557 (FP.fadd FP.fconst1 (FP.fmul 1028443341 (FP.i2f (sp_J9_min_7cf53 (gI M2 1 7) 4))))))) ∧ (vc_X1_movePlayer_n5 a1 (wF M2 5 3 (FP.fadd (gF M2 5 3) (FP.fmul 1045220557 (FP.fadd FP.fconst1 (FP.fmul 1028443341 (FP.i2f (sp_J9_min_7cf53 (gI M2 1 7) 4)))))))) := hV
      refine lv_fadd hx hb dX1_movePlayer_87 w87 ?_
      refine q_putf (T := TX0) hx hb hB uw_X0 tyX0 tyX0_ok nmX0 hown hK hC rfl (hL 5 (by decide) (by decide)) rfl 3 (by decide) rfl (hB _ mw_1_63) rfl rfl dX1_movePlayer_88 (fun H locs hC => ?_)
      obtain ⟨M3, eM3⟩ : ∃ z : Mem, z = wF M2 5 3 (FP.fadd (gF M2 5 3) (FP.fmul 1045220557 (FP.fadd FP.fconst1 (FP.fmul 1028443341 (FP.i2f (sp_J9_min_7cf53 (gI M2 1 7) 4)))))) := ⟨_, rfl⟩
      rw [← eM3] at hC
      have hT : sp_X1_movePlayer M a1 = sp_X1_movePlayer_n5 a1 M3 := by rw [eM3]; exact hT
      have hV : vc_X1_movePlayer_n5 a1 M3 := by rw [eM3]; exact hV
      refine lv_aload_n hx hb dX1_movePlayer_91 rfl (lv_at hl 0 rfl) ?_
      refine q_getr (T := TX1) hx hb hB uw_X1 hown hK hC rfl (hL 1 (by decide) (by decide)) rfl 2 (by decide) rfl rfl (hB _ mw_1_131) dX1_movePlayer_92 ?_
      refine q_getf (T := TX0) hx hb hB uw_X0 hown hK hC rfl (hL 5 (by decide) (by decide)) rfl 3 (by decide) rfl (hB _ mw_1_63) dX1_movePlayer_95 ?_
      refine lv_fconst1 hx hb dX1_movePlayer_98 ?_
      refine lv_fcmp hx hb dX1_movePlayer_99 ?_
      refine lv_if_ge (tgt := 105) hx hb dX1_movePlayer_100 (by decide) (fun c100 => ?_) (fun c100 => ?_)
      · have hT : sp_X1_movePlayer M a1 = sp_X1_movePlayer_n4 a1 (sp_X0_enterNextCell M3 5) := hT.trans (if_pos c100)
        have hV : vc_X1_movePlayer_n4 a1 (sp_X0_enterNextCell M3 5) := iteT hV c100
        refine lv_aload_n hx hb dX1_movePlayer_105 rfl (lv_at hl 0 rfl) ?_
        refine q_getr (T := TX1) hx hb hB uw_X1 hown hK hC rfl (hL 1 (by decide) (by decide)) rfl 2 (by decide) rfl rfl (hB _ mw_1_131) dX1_movePlayer_106 ?_
        refine q_Cv (q_V (own := "MazeBoard$Game") (y := yX0_enterNextCell) (As := []) (rest := []) ⟨hx, hb, hml, hown, hB⟩ hK hE hC (c_X0_enterNextCell l D cy ad L H.size (hL.sub (by decide) (by decide)) M3 5 (⟨by decide, by decide⟩)) rfl (hL 5 (by decide) (by decide)) rfl mw_2_61 mw_2_62 mw_2_63 mw_1_4 mw_2_64 rfl yd_X0_enterNextCell ⟨rfl, rfl⟩ ⟨Nat.le_of_ble_eq_true rfl, Nat.le_of_ble_eq_true rfl⟩ rfl hl.1 rfl (Nat.le_of_ble_eq_true rfl) dX1_movePlayer_109 ⟨Nat.le_refl _, Nat.le_refl _⟩) hC (fun M4 H locs eM4 hC => ?_)
        have hT : sp_X1_movePlayer M a1 = sp_X1_movePlayer_n4 a1 M4 := by rw [eM4]; exact hT
        have hV : vc_X1_movePlayer_n4 a1 M4 := by rw [eM4]; exact hV
        refine lv_aload_n hx hb dX1_movePlayer_112 rfl (lv_at hl 0 rfl) ?_
        refine q_getr (T := TX1) hx hb hB uw_X1 hown hK hC rfl (hL 1 (by decide) (by decide)) rfl 2 (by decide) rfl rfl (hB _ mw_1_131) dX1_movePlayer_113 ?_
        refine lv_aload_n hx hb dX1_movePlayer_116 rfl (lv_at hl 0 rfl) ?_
        refine q_getr (T := TX1) hx hb hB uw_X1 hown hK hC rfl (hL 1 (by decide) (by decide)) rfl 2 (by decide) rfl rfl (hB _ mw_1_131) dX1_movePlayer_117 ?_
        refine q_getf (T := TX0) hx hb hB uw_X0 hown hK hC rfl (hL 5 (by decide) (by decide)) rfl 3 (by decide) rfl (hB _ mw_1_63) dX1_movePlayer_120 ?_
        refine lv_fconst1 hx hb dX1_movePlayer_123 ?_
        obtain ⟨w124, hV⟩ : (vf_n32 (FP.fsub (gF M4 5 3) FP.fconst1)) ∧ (vc_X1_movePlayer_n3 a1 (wF M4 5 3 (FP.fsub (gF M4 5 3) FP.fconst1))) := hV
        refine lv_fsub hx hb dX1_movePlayer_124 w124 ?_
        refine q_putf (T := TX0) hx hb hB uw_X0 tyX0 tyX0_ok nmX0 hown hK hC rfl (hL 5 (by decide) (by decide)) rfl 3 (by decide) rfl (hB _ mw_1_63) rfl rfl dX1_movePlayer_125 (fun H locs hC => ?_)
        obtain ⟨M5, eM5⟩ : ∃ z : Mem, z = wF M4 5 3 (FP.fsub (gF M4 5 3) FP.fconst1) := ⟨_, rfl⟩
        rw [← eM5] at hC
        have hT : sp_X1_movePlayer M a1 = sp_X1_movePlayer_n3 a1 M5 := by rw [eM5]; exact hT
        have hV : vc_X1_movePlayer_n3 a1 M5 := by rw [eM5]; exact hV
        refine lv_aload_n hx hb dX1_movePlayer_128 rfl (lv_at hl 0 rfl) ?_
        refine q_getr (T := TX1) hx hb hB uw_X1 hown hK hC rfl (hL 1 (by decide) (by decide)) rfl 0 (by decide) rfl rfl (hB _ mw_1_127) dX1_movePlayer_129 ?_
        refine lv_aload_n hx hb dX1_movePlayer_132 rfl (lv_at hl 0 rfl) ?_
        refine q_getr (T := TX1) hx hb hB uw_X1 hown hK hC rfl (hL 1 (by decide) (by decide)) rfl 2 (by decide) rfl rfl (hB _ mw_1_131) dX1_movePlayer_133 ?_
        refine lv_aload_n hx hb dX1_movePlayer_136 rfl (lv_at hl 0 rfl) ?_
        refine q_getr (T := TX1) hx hb hB uw_X1 hown hK hC rfl (hL 1 (by decide) (by decide)) rfl 2 (by decide) rfl rfl (hB _ mw_1_131) dX1_movePlayer_137 ?_
        refine q_geti (T := TX0) hx hb hB uw_X0 hown hK hC rfl (hL 5 (by decide) (by decide)) rfl 2 (by decide) rfl (hB _ mw_1_60) dX1_movePlayer_140 ?_
        obtain ⟨v143, hV⟩ : (vc_X2_isOpen M5 5 (gI M5 5 2)) ∧ (if (sp_X2_isOpen M5 5 (gI M5 5 2)) = 0 then True else vc_X1_isStickOpen M5 a1) := hV
        refine q_Ci (q_V (own := "MazeBoard$Game") (y := yX2_isOpen) (As := [.ref (ad 5), .int (gI M5 5 2)]) (rest := []) ⟨hx, hb, hml, hown, hB⟩ hK hE hC (c_X2_isOpen l D cy ad L H.size (hL.sub (by decide) (by decide)) M5 5 (⟨by decide, by decide⟩) (gI M5 5 2) v143) rfl (hL 2 (by decide) (by decide)) rfl mw_2_42 mw_2_43 mw_2_44 mw_1_3 mw_2_45 rfl yd_X2_isOpen ⟨rfl, rfl⟩ ⟨Nat.le_of_ble_eq_true rfl, Nat.le_of_ble_eq_true rfl⟩ rfl hl.1 rfl (Nat.le_of_ble_eq_true rfl) dX1_movePlayer_143 ⟨Nat.le_refl _, Nat.le_refl _⟩) hC (fun r N_ H locs hp hC => ?_)
        obtain ⟨hr_, hM_⟩ := hp
        subst hr_
        rw [hM_] at hC
        refine lv_if_eq (tgt := 157) hx hb dX1_movePlayer_146 (by decide) (fun c146 => ?_) (fun c146 => ?_)
        · have hT : sp_X1_movePlayer M a1 = sp_X1_movePlayer_B157 M5 := hT.trans (if_pos c146)
          exact J157 M5 _ _ _  hT hC (lv_sub hl [0] rfl)
        · have hT : sp_X1_movePlayer M a1 = if (sp_X1_isStickOpen M5 a1) = 0 then (sp_X1_movePlayer_B165 M5) else (sp_X1_movePlayer_B157 M5) := hT.trans (if_neg c146)
          have hV : vc_X1_isStickOpen M5 a1 := iteF hV c146
          refine lv_aload_n hx hb dX1_movePlayer_149 rfl (lv_at hl 0 rfl) ?_
          refine lv_iload_n hx hb dX1_movePlayer_150 rfl (lv_at hl 1 rfl) ?_
          have v151 : vc_X1_isStickOpen M5 a1 := hV
          refine q_Ci (q_V (own := "MazeBoard$Game") (y := yX1_isStickOpen) (As := [.int a1]) (rest := []) ⟨hx, hb, hml, hown, hB⟩ hK hE hC (c_X1_isStickOpen l D cy ad L H.size (hL.sub (by decide) (by decide)) M5 a1 v151) rfl (hL 1 (by decide) (by decide)) rfl mw_2_38 mw_2_40 mw_0_4 mw_1_2 mw_2_41 rfl yd_X1_isStickOpen ⟨rfl, rfl⟩ ⟨Nat.le_of_ble_eq_true rfl, Nat.le_of_ble_eq_true rfl⟩ rfl hl.1 rfl (Nat.le_of_ble_eq_true rfl) dX1_movePlayer_151 ⟨Nat.le_refl _, Nat.le_refl _⟩) hC (fun r N_ H locs hp hC => ?_)
          obtain ⟨hr_, hM_⟩ := hp
          subst hr_
          rw [hM_] at hC
          refine lv_if_eq (tgt := 165) hx hb dX1_movePlayer_154 (by decide) (fun c154 => ?_) (fun c154 => ?_)
          · have hT : sp_X1_movePlayer M a1 = sp_X1_movePlayer_B165 M5 := hT.trans (if_pos c154)
            exact J165 M5 _ _ _  hT hC (lv_sub hl [] rfl)
          · have hT : sp_X1_movePlayer M a1 = sp_X1_movePlayer_B157 M5 := hT.trans (if_neg c154)
            exact J157 M5 _ _ _  hT hC (lv_sub hl [0] rfl)
      · have hT : sp_X1_movePlayer M a1 = (0, M3) := hT.trans (if_neg c100)
        refine lv_iconst (v := 0) hx hb dX1_movePlayer_103 (by decide) ?_
        exact q_retz hx hb hr hlocks hC (by decide) ⟨(congrArg Prod.fst hT).symm, (congrArg Prod.snd hT).symm⟩ dX1_movePlayer_104
    · have hT : sp_X1_movePlayer M a1 = sp_X1_movePlayer_n2 (wF M2 5 3 FP.fconst0) := hT.trans (if_pos c46)
      refine lv_aload_n hx hb dX1_movePlayer_49 rfl (lv_at hl 0 rfl) ?_
      refine q_getr (T := TX1) hx hb hB uw_X1 hown hK hC rfl (hL 1 (by decide) (by decide)) rfl 2 (by decide) rfl rfl (hB _ mw_1_131) dX1_movePlayer_50 ?_
      refine lv_fconst0 hx hb dX1_movePlayer_53 ?_
      refine q_putf (T := TX0) hx hb hB uw_X0 tyX0 tyX0_ok nmX0 hown hK hC rfl (hL 5 (by decide) (by decide)) rfl 3 (by decide) rfl (hB _ mw_1_63) rfl rfl dX1_movePlayer_54 (fun H locs hC => ?_)
      obtain ⟨M6, eM6⟩ : ∃ z : Mem, z = wF M2 5 3 FP.fconst0 := ⟨_, rfl⟩
      rw [← eM6] at hC
      have hT : sp_X1_movePlayer M a1 = sp_X1_movePlayer_n2 M6 := by rw [eM6]; exact hT
      refine lv_iconst (v := 0) hx hb dX1_movePlayer_57 (by decide) ?_
      exact q_retz hx hb hr hlocks hC (by decide) ⟨(congrArg Prod.fst hT).symm, (congrArg Prod.snd hT).symm⟩ dX1_movePlayer_58
  have hT : sp_X1_movePlayer M a1 = if (Op.cmpValue (FP.fcmp (gF M 5 3) FP.fconst0) .l) = 0 then (if (sp_X1_isStickOpen M a1) = 0 then (sp_X1_movePlayer_B28 a1 M) else (sp_X1_movePlayer_n6 a1 (wI M 5 2 a1))) else (sp_X1_movePlayer_B28 a1 M) := rfl
  have hV : if (Op.cmpValue (FP.fcmp (gF M 5 3) FP.fconst0) .l) = 0 then (vc_X1_isStickOpen M a1 ∧ (if (sp_X1_isStickOpen M a1) = 0 then vc_X1_movePlayer_B28 a1 M else (vc_X1_movePlayer_n6 a1 (wI M 5 2 a1)))) else vc_X1_movePlayer_B28 a1 M := hV
  refine lv_aload_n hx hb dX1_movePlayer_0 rfl (lv_at hl 0 rfl) ?_
  refine q_getr (T := TX1) hx hb hB uw_X1 hown hK hC rfl (hL 1 (by decide) (by decide)) rfl 2 (by decide) rfl rfl (hB _ mw_1_131) dX1_movePlayer_1 ?_
  refine q_getf (T := TX0) hx hb hB uw_X0 hown hK hC rfl (hL 5 (by decide) (by decide)) rfl 3 (by decide) rfl (hB _ mw_1_63) dX1_movePlayer_4 ?_
  refine lv_fconst0 hx hb dX1_movePlayer_7 ?_
  refine lv_fcmp hx hb dX1_movePlayer_8 ?_
  refine lv_if_ne (tgt := 28) hx hb dX1_movePlayer_9 (by decide) (fun c9 => ?_) (fun c9 => ?_)
  · have hT : sp_X1_movePlayer M a1 = sp_X1_movePlayer_B28 a1 M := hT.trans (if_neg c9)
    have hV : vc_X1_movePlayer_B28 a1 M := iteF hV c9
    exact J28 M _ _ _  hT hV hC (lv_sub hl [0, 1] rfl)
  · have hT : sp_X1_movePlayer M a1 = if (sp_X1_isStickOpen M a1) = 0 then (sp_X1_movePlayer_B28 a1 M) else (sp_X1_movePlayer_n6 a1 (wI M 5 2 a1)) := hT.trans (if_pos c9)
    have hV : vc_X1_isStickOpen M a1 ∧ (if (sp_X1_isStickOpen M a1) = 0 then vc_X1_movePlayer_B28 a1 M else (vc_X1_movePlayer_n6 a1 (wI M 5 2 a1))) := iteT hV c9
    refine lv_aload_n hx hb dX1_movePlayer_12 rfl (lv_at hl 0 rfl) ?_
    refine lv_iload_n hx hb dX1_movePlayer_13 rfl (lv_at hl 1 rfl) ?_
    obtain ⟨v14, hV⟩ : vc_X1_isStickOpen M a1 ∧ (if (sp_X1_isStickOpen M a1) = 0 then vc_X1_movePlayer_B28 a1 M else (vc_X1_movePlayer_n6 a1 (wI M 5 2 a1))) := hV
    refine q_Ci (q_V (own := "MazeBoard$Game") (y := yX1_isStickOpen) (As := [.int a1]) (rest := []) ⟨hx, hb, hml, hown, hB⟩ hK hE hC (c_X1_isStickOpen l D cy ad L H.size (hL.sub (by decide) (by decide)) M a1 v14) rfl (hL 1 (by decide) (by decide)) rfl mw_2_38 mw_2_40 mw_0_4 mw_1_2 mw_2_41 rfl yd_X1_isStickOpen ⟨rfl, rfl⟩ ⟨Nat.le_of_ble_eq_true rfl, Nat.le_of_ble_eq_true rfl⟩ rfl hl.1 rfl (Nat.le_of_ble_eq_true rfl) dX1_movePlayer_14 ⟨Nat.le_refl _, Nat.le_refl _⟩) hC (fun r N_ H locs hp hC => ?_)
    obtain ⟨hr_, hM_⟩ := hp
    subst hr_
    rw [hM_] at hC
    refine lv_if_eq (tgt := 28) hx hb dX1_movePlayer_17 (by decide) (fun c17 => ?_) (fun c17 => ?_)
    · have hT : sp_X1_movePlayer M a1 = sp_X1_movePlayer_B28 a1 M := hT.trans (if_pos c17)
      have hV : vc_X1_movePlayer_B28 a1 M := iteT hV c17
      exact J28 M _ _ _  hT hV hC (lv_sub hl [0, 1] rfl)
    · have hT : sp_X1_movePlayer M a1 = sp_X1_movePlayer_n6 a1 (wI M 5 2 a1) := hT.trans (if_neg c17)
      have hV : vc_X1_movePlayer_n6 a1 (wI M 5 2 a1) := iteF hV c17
      refine lv_aload_n hx hb dX1_movePlayer_20 rfl (lv_at hl 0 rfl) ?_
      refine q_getr (T := TX1) hx hb hB uw_X1 hown hK hC rfl (hL 1 (by decide) (by decide)) rfl 2 (by decide) rfl rfl (hB _ mw_1_131) dX1_movePlayer_21 ?_
      refine lv_iload_n hx hb dX1_movePlayer_24 rfl (lv_at hl 1 rfl) ?_
      refine q_puti (T := TX0) hx hb hB uw_X0 tyX0 tyX0_ok nmX0 hown hK hC rfl (hL 5 (by decide) (by decide)) rfl 2 (by decide) rfl (hB _ mw_1_60) rfl rfl rfl rfl dX1_movePlayer_25 (fun H locs hC => ?_)
      obtain ⟨M1, eM1⟩ : ∃ z : Mem, z = wI M 5 2 a1 := ⟨_, rfl⟩
      rw [← eM1] at hC
      have hT : sp_X1_movePlayer M a1 = sp_X1_movePlayer_n6 a1 M1 := by rw [eM1]; exact hT
      have hV : vc_X1_movePlayer_n6 a1 M1 := by rw [eM1]; exact hV
      exact J28 M1 _ _ _  hT hV hC (lv_sub hl [0, 1] rfl)
