set_option maxHeartbeats 4000000 in
set_option maxRecDepth 100000 in
theorem c_X0_place (l : Launch) (D : va_G) (cy ad : Nat → Nat) (L : List Nat) (sz : Nat) (hL : lr 1 9 L) (M : Mem) (h : Nat) (hh : isA h) (a1 : Int32) (a2 : Int32) (a3 : Int32) (a4 : Int32) (hV : vc_X0_place M h a1 a2 a3 a4) : Met l yX0_place (Cond.code yX0_place cX0_place 5 (none) :: BG) ({ frames := 0, cells := 0, slots := 0, locals := 0 }) (va_Pc [.ref (ad h), .int a1, .int a2, .int a3, .int a4] (PW D cy ad L M sz)) (va_Qv (fun N => N = sp_X0_place M h a1 a2 a3 a4) (OW D cy ad L sz) (fA ad L sz)) 0 0 (fA ad L sz) := by
  refine q_start (by decide) (Nat.le_of_ble_eq_true rfl) (fun p e s m below meth c H locs ls hsz hx hb hr hlocks hml hown hB hK hE hC hl => ?_)
  subst hsz
  have hown : s.vm.findClass "MazeBoard$Actor" = some m.cls := hown
  have hl : lv_has ls 5 [(0, .ref (ad h)), (1, .int a1), (2, .int a2), (3, .int a3), (4, .int a4)] := hl
  have J36 : ∀ (M5 : Mem) (x6 : Int32) (H : Heap) (locs : List Loc) (ls : Array Slot) (hT : sp_X0_place M h a1 a2 a3 a4 = sp_X0_place_B36 h a4 M5 x6) (hV : vc_X0_place_B36 h a4 M5 x6) (hC : Cx D cy ad R0 L (fA ad L s.heap.size) s M5 H locs) (hl : lv_has ls 5 [(0, .ref (ad h)), (4, .int a4)]), W p l e ({ frames := 0, cells := 0, slots := 0, locals := 0 }) s m ([.ref (ad h), .int a1, .int a2, .int a3, .int a4] : List Value).toArray below meth c H locs 0 0 (MQ below (va_Qv (fun N => N = sp_X0_place M h a1 a2 a3 a4) (OW D cy ad L s.heap.size) (fA ad L s.heap.size)) ([.ref (ad h), .int a1, .int a2, .int a3, .int a4] : List Value).toArray s 0 0 (fA ad L s.heap.size)) (F0 m 36 ls [.int x6, .ref (ad h)]) := by
    intro M5 x6 H locs ls  hT hV hC hl
    have hT : sp_X0_place M h a1 a2 a3 a4 = sp_X0_place_n2 h a4 (wI M5 h 5 x6) := hT
    have hV : (x6 = 0 ∨ x6 = 1) := hV
    have w36 : x6 = 0 ∨ x6 = 1 := hV
    refine q_puti (T := TX0) hx hb hB uw_X0 tyX0 tyX0_ok nmX0 hown hK hC (isA.sh hh) (hL _ (Nat.le_trans (by decide) (hh).1) (Nat.le_trans (hh).2 (by decide))) rfl 5 (by decide) rfl (hB _ mw_1_69) rfl rfl (bo_n w36) (bo_f w36) dX0_place_36 (fun H locs hC => ?_)
    obtain ⟨M7, eM7⟩ : ∃ z : Mem, z = wI M5 h 5 x6 := ⟨_, rfl⟩
    rw [← eM7] at hC
    have hT : sp_X0_place M h a1 a2 a3 a4 = sp_X0_place_n2 h a4 M7 := by rw [eM7]; exact hT
    refine lv_aload_n hx hb dX0_place_39 rfl (lv_at hl 0 rfl) ?_
    refine lv_iload hx hb dX0_place_40 (lv_at hl 1 rfl) ?_
    refine q_puti (T := TX0) hx hb hB uw_X0 tyX0 tyX0_ok nmX0 hown hK hC (isA.sh hh) (hL _ (Nat.le_trans (by decide) (hh).1) (Nat.le_trans (hh).2 (by decide))) rfl 6 (by decide) rfl (hB _ mw_1_73) rfl rfl rfl rfl dX0_place_42 (fun H locs hC => ?_)
    obtain ⟨M8, eM8⟩ : ∃ z : Mem, z = wI M7 h 6 a4 := ⟨_, rfl⟩
    rw [← eM8] at hC
    have hT : sp_X0_place M h a1 a2 a3 a4 = sp_X0_place_n1 M8 := by rw [eM8]; exact hT
    exact q_retv hx hb hr hlocks hC hT.symm dX0_place_45
  have hT : sp_X0_place M h a1 a2 a3 a4 = sp_X0_place_n7 h a2 a3 a4 (wI M h 0 a1) := rfl
  have hV : vc_X0_place_n7 h a2 a3 a4 (wI M h 0 a1) := hV
  refine lv_aload_n hx hb dX0_place_0 rfl (lv_at hl 0 rfl) ?_
  refine lv_iload_n hx hb dX0_place_1 rfl (lv_at hl 1 rfl) ?_
  refine q_puti (T := TX0) hx hb hB uw_X0 tyX0 tyX0_ok nmX0 hown hK hC (isA.sh hh) (hL _ (Nat.le_trans (by decide) (hh).1) (Nat.le_trans (hh).2 (by decide))) rfl 0 (by decide) rfl (hB _ mw_1_47) rfl rfl rfl rfl dX0_place_2 (fun H locs hC => ?_)
  obtain ⟨M1, eM1⟩ : ∃ z : Mem, z = wI M h 0 a1 := ⟨_, rfl⟩
  rw [← eM1] at hC
  have hT : sp_X0_place M h a1 a2 a3 a4 = sp_X0_place_n7 h a2 a3 a4 M1 := by rw [eM1]; exact hT
  have hV : vc_X0_place_n7 h a2 a3 a4 M1 := by rw [eM1]; exact hV
  refine lv_aload_n hx hb dX0_place_5 rfl (lv_at hl 0 rfl) ?_
  refine lv_iload_n hx hb dX0_place_6 rfl (lv_at hl 2 rfl) ?_
  refine q_puti (T := TX0) hx hb hB uw_X0 tyX0 tyX0_ok nmX0 hown hK hC (isA.sh hh) (hL _ (Nat.le_trans (by decide) (hh).1) (Nat.le_trans (hh).2 (by decide))) rfl 1 (by decide) rfl (hB _ mw_1_52) rfl rfl rfl rfl dX0_place_7 (fun H locs hC => ?_)
  obtain ⟨M2, eM2⟩ : ∃ z : Mem, z = wI M1 h 1 a2 := ⟨_, rfl⟩
  rw [← eM2] at hC
  have hT : sp_X0_place M h a1 a2 a3 a4 = sp_X0_place_n6 h a3 a4 M2 := by rw [eM2]; exact hT
  have hV : vc_X0_place_n6 h a3 a4 M2 := by rw [eM2]; exact hV
  refine lv_aload_n hx hb dX0_place_10 rfl (lv_at hl 0 rfl) ?_
  refine lv_iload_n hx hb dX0_place_11 rfl (lv_at hl 3 rfl) ?_
  refine q_puti (T := TX0) hx hb hB uw_X0 tyX0 tyX0_ok nmX0 hown hK hC (isA.sh hh) (hL _ (Nat.le_trans (by decide) (hh).1) (Nat.le_trans (hh).2 (by decide))) rfl 2 (by decide) rfl (hB _ mw_1_57) rfl rfl rfl rfl dX0_place_12 (fun H locs hC => ?_)
  obtain ⟨M3, eM3⟩ : ∃ z : Mem, z = wI M2 h 2 a3 := ⟨_, rfl⟩
  rw [← eM3] at hC
  have hT : sp_X0_place M h a1 a2 a3 a4 = sp_X0_place_n5 h a4 M3 := by rw [eM3]; exact hT
  have hV : vc_X0_place_n5 h a4 M3 := by rw [eM3]; exact hV
  refine lv_aload_n hx hb dX0_place_15 rfl (lv_at hl 0 rfl) ?_
  refine lv_fconst0 hx hb dX0_place_16 ?_
  refine q_putf (T := TX0) hx hb hB uw_X0 tyX0 tyX0_ok nmX0 hown hK hC (isA.sh hh) (hL _ (Nat.le_trans (by decide) (hh).1) (Nat.le_trans (hh).2 (by decide))) rfl 3 (by decide) rfl (hB _ mw_1_61) rfl rfl dX0_place_17 (fun H locs hC => ?_)
  obtain ⟨M4, eM4⟩ : ∃ z : Mem, z = wF M3 h 3 FP.fconst0 := ⟨_, rfl⟩
  rw [← eM4] at hC
  have hT : sp_X0_place M h a1 a2 a3 a4 = sp_X0_place_n4 h a4 M4 := by rw [eM4]; exact hT
  have hV : vc_X0_place_n4 h a4 M4 := by rw [eM4]; exact hV
  refine lv_aload_n hx hb dX0_place_20 rfl (lv_at hl 0 rfl) ?_
  refine lv_iconst (v := 0) hx hb dX0_place_21 (by decide) ?_
  refine q_puti (T := TX0) hx hb hB uw_X0 tyX0 tyX0_ok nmX0 hown hK hC (isA.sh hh) (hL _ (Nat.le_trans (by decide) (hh).1) (Nat.le_trans (hh).2 (by decide))) rfl 4 (by decide) rfl (hB _ mw_1_65) rfl rfl (by decide) (by decide) dX0_place_22 (fun H locs hC => ?_)
  obtain ⟨M5, eM5⟩ : ∃ z : Mem, z = wI M4 h 4 0 := ⟨_, rfl⟩
  rw [← eM5] at hC
  have hT : sp_X0_place M h a1 a2 a3 a4 = sp_X0_place_n3 h a4 M5 := by rw [eM5]; exact hT
  have hV : vc_X0_place_n3 h a4 M5 := by rw [eM5]; exact hV
  refine lv_aload_n hx hb dX0_place_25 rfl (lv_at hl 0 rfl) ?_
  refine lv_iload hx hb dX0_place_26 (lv_at hl 4 rfl) ?_
  refine lv_if_le (tgt := 35) hx hb dX0_place_28 (by decide) (fun c28 => ?_) (fun c28 => ?_)
  · have hT : sp_X0_place M h a1 a2 a3 a4 = sp_X0_place_B36 h a4 M5 0 := hT.trans (if_pos c28)
    have hV : vc_X0_place_B36 h a4 M5 0 := iteT hV c28
    refine lv_iconst (v := 0) hx hb dX0_place_35 (by decide) ?_
    exact J36 M5 0 _ _ _  hT hV hC (lv_sub hl [0, 4] rfl)
  · have hT : sp_X0_place M h a1 a2 a3 a4 = sp_X0_place_B36 h a4 M5 1 := hT.trans (if_neg c28)
    have hV : vc_X0_place_B36 h a4 M5 1 := iteF hV c28
    refine lv_iconst (v := 1) hx hb dX0_place_31 (by decide) ?_
    refine lv_goto (tgt := 36) hx hb dX0_place_32 (by decide) ?_
    exact J36 M5 1 _ _ _  hT hV hC (lv_sub hl [0, 4] rfl)
set_option maxHeartbeats 4000000 in
set_option maxRecDepth 100000 in
theorem c_X0_rememberCell (l : Launch) (D : va_G) (cy ad : Nat → Nat) (L : List Nat) (sz : Nat) (hL : lr 1 9 L) (M : Mem) (h : Nat) (hh : isA h) : Met l yX0_rememberCell (Cond.code yX0_rememberCell cX0_rememberCell 1 (none) :: BG) ({ frames := 0, cells := 0, slots := 0, locals := 0 }) (va_Pc [.ref (ad h)] (PW D cy ad L M sz)) (va_Qv (fun N => N = sp_X0_rememberCell M h) (OW D cy ad L sz) (fA ad L sz)) 0 0 (fA ad L sz) := by
  refine q_start (by decide) (Nat.le_of_ble_eq_true rfl) (fun p e s m below meth c H locs ls hsz hx hb hr hlocks hml hown hB hK hE hC hl => ?_)
  subst hsz
  have hown : s.vm.findClass "MazeBoard$Actor" = some m.cls := hown
  have hl : lv_has ls 1 [(0, .ref (ad h))] := hl
  have hT : sp_X0_rememberCell M h = sp_X0_rememberCell_n2 h (wI M h 7 (gI M h 0)) := rfl
  refine lv_aload_n hx hb dX0_rememberCell_0 rfl (lv_at hl 0 rfl) ?_
  refine lv_aload_n hx hb dX0_rememberCell_1 rfl (lv_at hl 0 rfl) ?_
  refine q_geti (T := TX0) hx hb hB uw_X0 hown hK hC (isA.sh hh) (hL _ (Nat.le_trans (by decide) (hh).1) (Nat.le_trans (hh).2 (by decide))) rfl 0 (by decide) rfl (hB _ mw_1_47) dX0_rememberCell_2 ?_
  refine q_puti (T := TX0) hx hb hB uw_X0 tyX0 tyX0_ok nmX0 hown hK hC (isA.sh hh) (hL _ (Nat.le_trans (by decide) (hh).1) (Nat.le_trans (hh).2 (by decide))) rfl 7 (by decide) rfl (hB _ mw_1_76) rfl rfl rfl rfl dX0_rememberCell_5 (fun H locs hC => ?_)
  obtain ⟨M1, eM1⟩ : ∃ z : Mem, z = wI M h 7 (gI M h 0) := ⟨_, rfl⟩
  rw [← eM1] at hC
  have hT : sp_X0_rememberCell M h = sp_X0_rememberCell_n2 h M1 := by rw [eM1]; exact hT
  refine lv_aload_n hx hb dX0_rememberCell_8 rfl (lv_at hl 0 rfl) ?_
  refine lv_aload_n hx hb dX0_rememberCell_9 rfl (lv_at hl 0 rfl) ?_
  refine q_geti (T := TX0) hx hb hB uw_X0 hown hK hC (isA.sh hh) (hL _ (Nat.le_trans (by decide) (hh).1) (Nat.le_trans (hh).2 (by decide))) rfl 1 (by decide) rfl (hB _ mw_1_52) dX0_rememberCell_10 ?_
  refine q_puti (T := TX0) hx hb hB uw_X0 tyX0 tyX0_ok nmX0 hown hK hC (isA.sh hh) (hL _ (Nat.le_trans (by decide) (hh).1) (Nat.le_trans (hh).2 (by decide))) rfl 8 (by decide) rfl (hB _ mw_1_77) rfl rfl rfl rfl dX0_rememberCell_13 (fun H locs hC => ?_)
  obtain ⟨M2, eM2⟩ : ∃ z : Mem, z = wI M1 h 8 (gI M1 h 1) := ⟨_, rfl⟩
  rw [← eM2] at hC
  have hT : sp_X0_rememberCell M h = sp_X0_rememberCell_n1 M2 := by rw [eM2]; exact hT
  exact q_retv hx hb hr hlocks hC hT.symm dX0_rememberCell_16
set_option maxHeartbeats 4000000 in
set_option maxRecDepth 100000 in
theorem c_X6_nextColumn (l : Launch) (D : va_G) (cy ad : Nat → Nat) (L : List Nat) (sz : Nat) (M : Mem) (a1 : Int32) (a2 : Int32) : Met l yX6_nextColumn (Cond.code yX6_nextColumn cX6_nextColumn 2 (some .int) :: BG) ({ frames := 0, cells := 0, slots := 0, locals := 0 }) (va_Pc [.int a1, .int a2] (PW D cy ad L M sz)) (va_Qi (fun r N => r = sp_X6_nextColumn a1 a2 ∧ N = M) (OW D cy ad L sz) (fA ad L sz)) 0 0 (fA ad L sz) := by
  refine q_start (by decide) (Nat.le_of_ble_eq_true rfl) (fun p e s m below meth c H locs ls hsz hx hb hr hlocks hml hown hB hK hE hC hl => ?_)
  subst hsz
  have hown : s.vm.findClass "MazeBoard" = some m.cls := hown
  have hl : lv_has ls 2 [(0, .int a1), (1, .int a2)] := hl
  have J36 : ∀ (x2 : Int32) (H : Heap) (locs : List Loc) (ls : Array Slot) (hT : sp_X6_nextColumn a1 a2 = sp_X6_nextColumn_B36 x2) (hC : Cx D cy ad R0 L (fA ad L s.heap.size) s M H locs) (hl : lv_has ls 2 []), W p l e ({ frames := 0, cells := 0, slots := 0, locals := 0 }) s m ([.int a1, .int a2] : List Value).toArray below meth c H locs 0 0 (MQ below (va_Qi (fun r N => r = sp_X6_nextColumn a1 a2 ∧ N = M) (OW D cy ad L s.heap.size) (fA ad L s.heap.size)) ([.int a1, .int a2] : List Value).toArray s 0 0 (fA ad L s.heap.size)) (F0 m 36 ls [.int x2]) := by
    intro x2 H locs ls  hT hC hl
    have hT : sp_X6_nextColumn a1 a2 = x2 := hT
    exact q_reti hx hb hr hlocks hC ⟨hT.symm, rfl⟩ dX6_nextColumn_36
  have J17 : ∀ (x1 : Int32) (H : Heap) (locs : List Loc) (ls : Array Slot) (hT : sp_X6_nextColumn a1 a2 = sp_X6_nextColumn_B17 x1) (hC : Cx D cy ad R0 L (fA ad L s.heap.size) s M H locs) (hl : lv_has ls 2 []), W p l e ({ frames := 0, cells := 0, slots := 0, locals := 0 }) s m ([.int a1, .int a2] : List Value).toArray below meth c H locs 0 0 (MQ below (va_Qi (fun r N => r = sp_X6_nextColumn a1 a2 ∧ N = M) (OW D cy ad L s.heap.size) (fA ad L s.heap.size)) ([.int a1, .int a2] : List Value).toArray s 0 0 (fA ad L s.heap.size)) (F0 m 17 ls [.int x1]) := by
    intro x1 H locs ls  hT hC hl
    have hT : sp_X6_nextColumn a1 a2 = x1 := hT
    exact q_reti hx hb hr hlocks hC ⟨hT.symm, rfl⟩ dX6_nextColumn_17
  have hT : sp_X6_nextColumn a1 a2 = if a2 = 1 then (if a1 = 0 then (sp_X6_nextColumn_B17 12) else (sp_X6_nextColumn_B17 (a1 - 1))) else (if a2 = 3 then (if a1 = 12 then (sp_X6_nextColumn_B36 0) else (sp_X6_nextColumn_B36 (a1 + 1))) else a1) := rfl
  refine lv_iload_n hx hb dX6_nextColumn_0 rfl (lv_at hl 1 rfl) ?_
  refine lv_iconst (v := 1) hx hb dX6_nextColumn_1 (by decide) ?_
  refine lv_icmp_ne (tgt := 18) hx hb dX6_nextColumn_2 (by decide) (fun c2 => ?_) (fun c2 => ?_)
  · have hT : sp_X6_nextColumn a1 a2 = if a2 = 3 then (if a1 = 12 then (sp_X6_nextColumn_B36 0) else (sp_X6_nextColumn_B36 (a1 + 1))) else a1 := hT.trans (if_neg c2)
    refine lv_iload_n hx hb dX6_nextColumn_18 rfl (lv_at hl 1 rfl) ?_
    refine lv_iconst (v := 3) hx hb dX6_nextColumn_19 (by decide) ?_
    refine lv_icmp_ne (tgt := 37) hx hb dX6_nextColumn_20 (by decide) (fun c20 => ?_) (fun c20 => ?_)
    · have hT : sp_X6_nextColumn a1 a2 = a1 := hT.trans (if_neg c20)
      refine lv_iload_n hx hb dX6_nextColumn_37 rfl (lv_at hl 0 rfl) ?_
      exact q_reti hx hb hr hlocks hC ⟨hT.symm, rfl⟩ dX6_nextColumn_38
    · have hT : sp_X6_nextColumn a1 a2 = if a1 = 12 then (sp_X6_nextColumn_B36 0) else (sp_X6_nextColumn_B36 (a1 + 1)) := hT.trans (if_pos c20)
      refine lv_iload_n hx hb dX6_nextColumn_23 rfl (lv_at hl 0 rfl) ?_
      refine lv_bipush (v := 12) hx hb dX6_nextColumn_24 (by decide) ?_
      refine lv_icmp_ne (tgt := 33) hx hb dX6_nextColumn_26 (by decide) (fun c26 => ?_) (fun c26 => ?_)
      · have hT : sp_X6_nextColumn a1 a2 = sp_X6_nextColumn_B36 (a1 + 1) := hT.trans (if_neg c26)
        refine lv_iload_n hx hb dX6_nextColumn_33 rfl (lv_at hl 0 rfl) ?_
        refine lv_iconst (v := 1) hx hb dX6_nextColumn_34 (by decide) ?_
        refine lv_iadd hx hb dX6_nextColumn_35 ?_
        exact J36 (a1 + 1) _ _ _  hT hC (lv_sub hl [] rfl)
      · have hT : sp_X6_nextColumn a1 a2 = sp_X6_nextColumn_B36 0 := hT.trans (if_pos c26)
        refine lv_iconst (v := 0) hx hb dX6_nextColumn_29 (by decide) ?_
        refine lv_goto (tgt := 36) hx hb dX6_nextColumn_30 (by decide) ?_
        exact J36 0 _ _ _  hT hC (lv_sub hl [] rfl)
  · have hT : sp_X6_nextColumn a1 a2 = if a1 = 0 then (sp_X6_nextColumn_B17 12) else (sp_X6_nextColumn_B17 (a1 - 1)) := hT.trans (if_pos c2)
    refine lv_iload_n hx hb dX6_nextColumn_5 rfl (lv_at hl 0 rfl) ?_
    refine lv_if_ne (tgt := 14) hx hb dX6_nextColumn_6 (by decide) (fun c6 => ?_) (fun c6 => ?_)
    · have hT : sp_X6_nextColumn a1 a2 = sp_X6_nextColumn_B17 (a1 - 1) := hT.trans (if_neg c6)
      refine lv_iload_n hx hb dX6_nextColumn_14 rfl (lv_at hl 0 rfl) ?_
      refine lv_iconst (v := 1) hx hb dX6_nextColumn_15 (by decide) ?_
      refine lv_isub hx hb dX6_nextColumn_16 ?_
      exact J17 (a1 - 1) _ _ _  hT hC (lv_sub hl [] rfl)
    · have hT : sp_X6_nextColumn a1 a2 = sp_X6_nextColumn_B17 12 := hT.trans (if_pos c6)
      refine lv_bipush (v := 12) hx hb dX6_nextColumn_9 (by decide) ?_
      refine lv_goto (tgt := 17) hx hb dX6_nextColumn_11 (by decide) ?_
      exact J17 12 _ _ _  hT hC (lv_sub hl [] rfl)
set_option maxHeartbeats 4000000 in
set_option maxRecDepth 100000 in
theorem c_X6_nextRow (l : Launch) (D : va_G) (cy ad : Nat → Nat) (L : List Nat) (sz : Nat) (M : Mem) (a1 : Int32) (a2 : Int32) : Met l yX6_nextRow (Cond.code yX6_nextRow cX6_nextRow 2 (some .int) :: BG) ({ frames := 0, cells := 0, slots := 0, locals := 0 }) (va_Pc [.int a1, .int a2] (PW D cy ad L M sz)) (va_Qi (fun r N => r = sp_X6_nextRow a1 a2 ∧ N = M) (OW D cy ad L sz) (fA ad L sz)) 0 0 (fA ad L sz) := by
  refine q_start (by decide) (Nat.le_of_ble_eq_true rfl) (fun p e s m below meth c H locs ls hsz hx hb hr hlocks hml hown hB hK hE hC hl => ?_)
  subst hsz
  have hown : s.vm.findClass "MazeBoard" = some m.cls := hown
  have hl : lv_has ls 2 [(0, .int a1), (1, .int a2)] := hl
  have J22 : ∀ (x1 : Int32) (H : Heap) (locs : List Loc) (ls : Array Slot) (hT : sp_X6_nextRow a1 a2 = sp_X6_nextRow_B22 x1) (hC : Cx D cy ad R0 L (fA ad L s.heap.size) s M H locs) (hl : lv_has ls 2 []), W p l e ({ frames := 0, cells := 0, slots := 0, locals := 0 }) s m ([.int a1, .int a2] : List Value).toArray below meth c H locs 0 0 (MQ below (va_Qi (fun r N => r = sp_X6_nextRow a1 a2 ∧ N = M) (OW D cy ad L s.heap.size) (fA ad L s.heap.size)) ([.int a1, .int a2] : List Value).toArray s 0 0 (fA ad L s.heap.size)) (F0 m 22 ls [.int x1]) := by
    intro x1 H locs ls  hT hC hl
    have hT : sp_X6_nextRow a1 a2 = x1 := hT
    exact q_reti hx hb hr hlocks hC ⟨hT.symm, rfl⟩ dX6_nextRow_22
  have hT : sp_X6_nextRow a1 a2 = if a2 = 0 then (sp_X6_nextRow_B22 (a1 - 1)) else (if a2 = 2 then (sp_X6_nextRow_B22 (a1 + 1)) else (sp_X6_nextRow_B22 a1)) := rfl
  refine lv_iload_n hx hb dX6_nextRow_0 rfl (lv_at hl 1 rfl) ?_
  refine lv_if_ne (tgt := 10) hx hb dX6_nextRow_1 (by decide) (fun c1 => ?_) (fun c1 => ?_)
  · have hT : sp_X6_nextRow a1 a2 = if a2 = 2 then (sp_X6_nextRow_B22 (a1 + 1)) else (sp_X6_nextRow_B22 a1) := hT.trans (if_neg c1)
    refine lv_iload_n hx hb dX6_nextRow_10 rfl (lv_at hl 1 rfl) ?_
    refine lv_iconst (v := 2) hx hb dX6_nextRow_11 (by decide) ?_
    refine lv_icmp_ne (tgt := 21) hx hb dX6_nextRow_12 (by decide) (fun c12 => ?_) (fun c12 => ?_)
    · have hT : sp_X6_nextRow a1 a2 = sp_X6_nextRow_B22 a1 := hT.trans (if_neg c12)
      refine lv_iload_n hx hb dX6_nextRow_21 rfl (lv_at hl 0 rfl) ?_
      exact J22 a1 _ _ _  hT hC (lv_sub hl [] rfl)
    · have hT : sp_X6_nextRow a1 a2 = sp_X6_nextRow_B22 (a1 + 1) := hT.trans (if_pos c12)
      refine lv_iload_n hx hb dX6_nextRow_15 rfl (lv_at hl 0 rfl) ?_
      refine lv_iconst (v := 1) hx hb dX6_nextRow_16 (by decide) ?_
      refine lv_iadd hx hb dX6_nextRow_17 ?_
      refine lv_goto (tgt := 22) hx hb dX6_nextRow_18 (by decide) ?_
      exact J22 (a1 + 1) _ _ _  hT hC (lv_sub hl [] rfl)
  · have hT : sp_X6_nextRow a1 a2 = sp_X6_nextRow_B22 (a1 - 1) := hT.trans (if_pos c1)
    refine lv_iload_n hx hb dX6_nextRow_4 rfl (lv_at hl 0 rfl) ?_
    refine lv_iconst (v := 1) hx hb dX6_nextRow_5 (by decide) ?_
    refine lv_isub hx hb dX6_nextRow_6 ?_
    refine lv_goto (tgt := 22) hx hb dX6_nextRow_7 (by decide) ?_
    exact J22 (a1 - 1) _ _ _  hT hC (lv_sub hl [] rfl)
set_option maxHeartbeats 4000000 in
set_option maxRecDepth 100000 in
theorem c_X0_enterNextCell (l : Launch) (D : va_G) (cy ad : Nat → Nat) (L : List Nat) (sz : Nat) (hL : lr 1 9 L) (M : Mem) (h : Nat) (hh : isA h) : Met l yX0_enterNextCell (Cond.code yX0_enterNextCell cX0_enterNextCell 1 (none) :: BG) ({ frames := 1, cells := 0, slots := 0, locals := 21 }) (va_Pc [.ref (ad h)] (PW D cy ad L M sz)) (va_Qv (fun N => N = sp_X0_enterNextCell M h) (OW D cy ad L sz) (fA ad L sz)) 0 0 (fA ad L sz) := by
  refine q_start (by decide) (Nat.le_of_ble_eq_true rfl) (fun p e s m below meth c H locs ls hsz hx hb hr hlocks hml hown hB hK hE hC hl => ?_)
  subst hsz
  have hown : s.vm.findClass "MazeBoard$Actor" = some m.cls := hown
  have hl : lv_has ls 1 [(0, .ref (ad h))] := hl
  have hT : sp_X0_enterNextCell M h = sp_X0_enterNextCell_n2 h (wI M h 0 (sp_X6_nextColumn (gI M h 0) (gI M h 2))) := rfl
  refine lv_aload_n hx hb dX0_enterNextCell_0 rfl (lv_at hl 0 rfl) ?_
  refine lv_aload_n hx hb dX0_enterNextCell_1 rfl (lv_at hl 0 rfl) ?_
  refine q_geti (T := TX0) hx hb hB uw_X0 hown hK hC (isA.sh hh) (hL _ (Nat.le_trans (by decide) (hh).1) (Nat.le_trans (hh).2 (by decide))) rfl 0 (by decide) rfl (hB _ mw_1_47) dX0_enterNextCell_2 ?_
  refine lv_aload_n hx hb dX0_enterNextCell_5 rfl (lv_at hl 0 rfl) ?_
  refine q_geti (T := TX0) hx hb hB uw_X0 hown hK hC (isA.sh hh) (hL _ (Nat.le_trans (by decide) (hh).1) (Nat.le_trans (hh).2 (by decide))) rfl 2 (by decide) rfl (hB _ mw_1_57) dX0_enterNextCell_6 ?_
  refine q_Ci (q_N (own := "MazeBoard$Actor") (y := yX6_nextColumn) (As := [.int (gI M h 0), .int (gI M h 2)]) (rest := [.ref (ad h)]) ⟨hx, hb, hml, hown, hB⟩ hK hE hC (c_X6_nextColumn l D cy ad L H.size M (gI M h 0) (gI M h 2)) (nw_X0_39 hE.2) mw_2_47 mw_1_1 mw_2_48 yd_X6_nextColumn ⟨rfl, rfl⟩ ⟨Nat.le_of_ble_eq_true rfl, Nat.le_of_ble_eq_true rfl⟩ rfl hl.1 rfl (Nat.le_of_ble_eq_true rfl) dX0_enterNextCell_9 ⟨Nat.le_refl _, Nat.le_refl _⟩) hC (fun r N_ H locs hp hC => ?_)
  obtain ⟨hr_, hM_⟩ := hp
  subst hr_
  rw [hM_] at hC
  refine q_puti (T := TX0) hx hb hB uw_X0 tyX0 tyX0_ok nmX0 hown hK hC (isA.sh hh) (hL _ (Nat.le_trans (by decide) (hh).1) (Nat.le_trans (hh).2 (by decide))) rfl 0 (by decide) rfl (hB _ mw_1_47) rfl rfl rfl rfl dX0_enterNextCell_12 (fun H locs hC => ?_)
  obtain ⟨M1, eM1⟩ : ∃ z : Mem, z = wI M h 0 (sp_X6_nextColumn (gI M h 0) (gI M h 2)) := ⟨_, rfl⟩
  rw [← eM1] at hC
  have hT : sp_X0_enterNextCell M h = sp_X0_enterNextCell_n2 h M1 := by rw [eM1]; exact hT
  refine lv_aload_n hx hb dX0_enterNextCell_15 rfl (lv_at hl 0 rfl) ?_
  refine lv_aload_n hx hb dX0_enterNextCell_16 rfl (lv_at hl 0 rfl) ?_
  refine q_geti (T := TX0) hx hb hB uw_X0 hown hK hC (isA.sh hh) (hL _ (Nat.le_trans (by decide) (hh).1) (Nat.le_trans (hh).2 (by decide))) rfl 1 (by decide) rfl (hB _ mw_1_52) dX0_enterNextCell_17 ?_
  refine lv_aload_n hx hb dX0_enterNextCell_20 rfl (lv_at hl 0 rfl) ?_
  refine q_geti (T := TX0) hx hb hB uw_X0 hown hK hC (isA.sh hh) (hL _ (Nat.le_trans (by decide) (hh).1) (Nat.le_trans (hh).2 (by decide))) rfl 2 (by decide) rfl (hB _ mw_1_57) dX0_enterNextCell_21 ?_
  refine q_Ci (q_N (own := "MazeBoard$Actor") (y := yX6_nextRow) (As := [.int (gI M1 h 1), .int (gI M1 h 2)]) (rest := [.ref (ad h)]) ⟨hx, hb, hml, hown, hB⟩ hK hE hC (c_X6_nextRow l D cy ad L H.size M1 (gI M1 h 1) (gI M1 h 2)) (nw_X0_45 hE.2) mw_2_50 mw_1_1 mw_2_51 yd_X6_nextRow ⟨rfl, rfl⟩ ⟨Nat.le_of_ble_eq_true rfl, Nat.le_of_ble_eq_true rfl⟩ rfl hl.1 rfl (Nat.le_of_ble_eq_true rfl) dX0_enterNextCell_24 ⟨Nat.le_refl _, Nat.le_refl _⟩) hC (fun r N_ H locs hp hC => ?_)
  obtain ⟨hr_, hM_⟩ := hp
  subst hr_
  rw [hM_] at hC
  refine q_puti (T := TX0) hx hb hB uw_X0 tyX0 tyX0_ok nmX0 hown hK hC (isA.sh hh) (hL _ (Nat.le_trans (by decide) (hh).1) (Nat.le_trans (hh).2 (by decide))) rfl 1 (by decide) rfl (hB _ mw_1_52) rfl rfl rfl rfl dX0_enterNextCell_27 (fun H locs hC => ?_)
  obtain ⟨M2, eM2⟩ : ∃ z : Mem, z = wI M1 h 1 (sp_X6_nextRow (gI M1 h 1) (gI M1 h 2)) := ⟨_, rfl⟩
  rw [← eM2] at hC
  have hT : sp_X0_enterNextCell M h = sp_X0_enterNextCell_n1 M2 := by rw [eM2]; exact hT
  exact q_retv hx hb hr hlocks hC hT.symm dX0_enterNextCell_30
set_option maxHeartbeats 4000000 in
set_option maxRecDepth 100000 in
theorem c_X0_isAt (l : Launch) (D : va_G) (cy ad : Nat → Nat) (L : List Nat) (sz : Nat) (hL : lr 1 9 L) (M : Mem) (h : Nat) (hh : isA h) (a1 : Int32) (a2 : Int32) (hV : vc_X0_isAt M h a1 a2) : Met l yX0_isAt (Cond.code yX0_isAt cX0_isAt 3 (some .boolean) :: BG) ({ frames := 0, cells := 0, slots := 0, locals := 0 }) (va_Pc [.ref (ad h), .int a1, .int a2] (PW D cy ad L M sz)) (va_Qi (fun r N => r = sp_X0_isAt M h a1 a2 ∧ N = M) (OW D cy ad L sz) (fA ad L sz)) 0 0 (fA ad L sz) := by
  refine q_start (by decide) (Nat.le_of_ble_eq_true rfl) (fun p e s m below meth c H locs ls hsz hx hb hr hlocks hml hown hB hK hE hC hl => ?_)
  subst hsz
  have hown : s.vm.findClass "MazeBoard$Actor" = some m.cls := hown
  have hl : lv_has ls 3 [(0, .ref (ad h)), (1, .int a1), (2, .int a2)] := hl
  have J21 : ∀ (x1 : Int32) (H : Heap) (locs : List Loc) (ls : Array Slot) (hT : sp_X0_isAt M h a1 a2 = sp_X0_isAt_B21 x1) (hV : vc_X0_isAt_B21 x1) (hC : Cx D cy ad R0 L (fA ad L s.heap.size) s M H locs) (hl : lv_has ls 3 []), W p l e ({ frames := 0, cells := 0, slots := 0, locals := 0 }) s m ([.ref (ad h), .int a1, .int a2] : List Value).toArray below meth c H locs 0 0 (MQ below (va_Qi (fun r N => r = sp_X0_isAt M h a1 a2 ∧ N = M) (OW D cy ad L s.heap.size) (fA ad L s.heap.size)) ([.ref (ad h), .int a1, .int a2] : List Value).toArray s 0 0 (fA ad L s.heap.size)) (F0 m 21 ls [.int x1]) := by
    intro x1 H locs ls  hT hV hC hl
    have hT : sp_X0_isAt M h a1 a2 = x1 := hT
    have hV : (x1 = 0 ∨ x1 = 1) := hV
    have w21 : x1 = 0 ∨ x1 = 1 := hV
    exact q_retz hx hb hr hlocks hC w21 ⟨hT.symm, rfl⟩ dX0_isAt_21
  have J20 : ∀  (H : Heap) (locs : List Loc) (ls : Array Slot) (hT : sp_X0_isAt M h a1 a2 = sp_X0_isAt_B20 ) (hV : vc_X0_isAt_B20 ) (hC : Cx D cy ad R0 L (fA ad L s.heap.size) s M H locs) (hl : lv_has ls 3 []), W p l e ({ frames := 0, cells := 0, slots := 0, locals := 0 }) s m ([.ref (ad h), .int a1, .int a2] : List Value).toArray below meth c H locs 0 0 (MQ below (va_Qi (fun r N => r = sp_X0_isAt M h a1 a2 ∧ N = M) (OW D cy ad L s.heap.size) (fA ad L s.heap.size)) ([.ref (ad h), .int a1, .int a2] : List Value).toArray s 0 0 (fA ad L s.heap.size)) (F0 m 20 ls []) := by
    intro  H locs ls  hT hV hC hl
    have hT : sp_X0_isAt M h a1 a2 = sp_X0_isAt_B21 0 := hT
    have hV : vc_X0_isAt_B21 0 := hV
    refine lv_iconst (v := 0) hx hb dX0_isAt_20 (by decide) ?_
    exact J21 0 _ _ _  hT hV hC (lv_sub hl [] rfl)
  have hT : sp_X0_isAt M h a1 a2 = if (gI M h 0) = a1 then (if (gI M h 1) = a2 then (sp_X0_isAt_B21 1) else sp_X0_isAt_B20) else sp_X0_isAt_B20 := rfl
  have hV : if (gI M h 0) = a1 then (if (gI M h 1) = a2 then vc_X0_isAt_B21 1 else vc_X0_isAt_B20) else vc_X0_isAt_B20 := hV
  refine lv_aload_n hx hb dX0_isAt_0 rfl (lv_at hl 0 rfl) ?_
  refine q_geti (T := TX0) hx hb hB uw_X0 hown hK hC (isA.sh hh) (hL _ (Nat.le_trans (by decide) (hh).1) (Nat.le_trans (hh).2 (by decide))) rfl 0 (by decide) rfl (hB _ mw_1_47) dX0_isAt_1 ?_
  refine lv_iload_n hx hb dX0_isAt_4 rfl (lv_at hl 1 rfl) ?_
  refine lv_icmp_ne (tgt := 20) hx hb dX0_isAt_5 (by decide) (fun c5 => ?_) (fun c5 => ?_)
  · have hT : sp_X0_isAt M h a1 a2 = sp_X0_isAt_B20 := hT.trans (if_neg c5)
    have hV : vc_X0_isAt_B20 := iteF hV c5
    exact J20  _ _ _  hT hV hC (lv_sub hl [] rfl)
  · have hT : sp_X0_isAt M h a1 a2 = if (gI M h 1) = a2 then (sp_X0_isAt_B21 1) else sp_X0_isAt_B20 := hT.trans (if_pos c5)
    have hV : if (gI M h 1) = a2 then vc_X0_isAt_B21 1 else vc_X0_isAt_B20 := iteT hV c5
    refine lv_aload_n hx hb dX0_isAt_8 rfl (lv_at hl 0 rfl) ?_
    refine q_geti (T := TX0) hx hb hB uw_X0 hown hK hC (isA.sh hh) (hL _ (Nat.le_trans (by decide) (hh).1) (Nat.le_trans (hh).2 (by decide))) rfl 1 (by decide) rfl (hB _ mw_1_52) dX0_isAt_9 ?_
    refine lv_iload_n hx hb dX0_isAt_12 rfl (lv_at hl 2 rfl) ?_
    refine lv_icmp_ne (tgt := 20) hx hb dX0_isAt_13 (by decide) (fun c13 => ?_) (fun c13 => ?_)
    · have hT : sp_X0_isAt M h a1 a2 = sp_X0_isAt_B20 := hT.trans (if_neg c13)
      have hV : vc_X0_isAt_B20 := iteF hV c13
      exact J20  _ _ _  hT hV hC (lv_sub hl [] rfl)
    · have hT : sp_X0_isAt M h a1 a2 = sp_X0_isAt_B21 1 := hT.trans (if_pos c13)
      have hV : vc_X0_isAt_B21 1 := iteT hV c13
      refine lv_iconst (v := 1) hx hb dX0_isAt_16 (by decide) ?_
      refine lv_goto (tgt := 21) hx hb dX0_isAt_17 (by decide) ?_
      exact J21 1 _ _ _  hT hV hC (lv_sub hl [] rfl)
set_option maxHeartbeats 4000000 in
set_option maxRecDepth 100000 in
theorem c_X0_meets (l : Launch) (D : va_G) (cy ad : Nat → Nat) (L : List Nat) (sz : Nat) (hL : lr 1 9 L) (M : Mem) (h : Nat) (hh : isA h) (b1 : Nat) (hb1 : isA b1) (hV : vc_X0_meets M h b1) : Met l yX0_meets (Cond.code yX0_meets cX0_meets 2 (some .boolean) :: BG) ({ frames := 1, cells := 0, slots := 0, locals := 22 }) (va_Pc [.ref (ad h), .ref (ad b1)] (PW D cy ad L M sz)) (va_Qi (fun r N => r = sp_X0_meets M h b1 ∧ N = M) (OW D cy ad L sz) (fA ad L sz)) 0 0 (fA ad L sz) := by
  refine q_start (by decide) (Nat.le_of_ble_eq_true rfl) (fun p e s m below meth c H locs ls hsz hx hb hr hlocks hml hown hB hK hE hC hl => ?_)
  subst hsz
  have hown : s.vm.findClass "MazeBoard$Actor" = some m.cls := hown
  have hl : lv_has ls 2 [(0, .ref (ad h)), (1, .ref (ad b1))] := hl
  have J50 : ∀ (x1 : Int32) (H : Heap) (locs : List Loc) (ls : Array Slot) (hT : sp_X0_meets M h b1 = sp_X0_meets_B50 x1) (hV : vc_X0_meets_B50 x1) (hC : Cx D cy ad R0 L (fA ad L s.heap.size) s M H locs) (hl : lv_has ls 2 []), W p l e ({ frames := 1, cells := 0, slots := 0, locals := 22 }) s m ([.ref (ad h), .ref (ad b1)] : List Value).toArray below meth c H locs 0 0 (MQ below (va_Qi (fun r N => r = sp_X0_meets M h b1 ∧ N = M) (OW D cy ad L s.heap.size) (fA ad L s.heap.size)) ([.ref (ad h), .ref (ad b1)] : List Value).toArray s 0 0 (fA ad L s.heap.size)) (F0 m 50 ls [.int x1]) := by
    intro x1 H locs ls  hT hV hC hl
    have hT : sp_X0_meets M h b1 = x1 := hT
    have hV : (x1 = 0 ∨ x1 = 1) := hV
    have w50 : x1 = 0 ∨ x1 = 1 := hV
    exact q_retz hx hb hr hlocks hC w50 ⟨hT.symm, rfl⟩ dX0_meets_50
  have J49 : ∀  (H : Heap) (locs : List Loc) (ls : Array Slot) (hT : sp_X0_meets M h b1 = sp_X0_meets_B49 ) (hV : vc_X0_meets_B49 ) (hC : Cx D cy ad R0 L (fA ad L s.heap.size) s M H locs) (hl : lv_has ls 2 []), W p l e ({ frames := 1, cells := 0, slots := 0, locals := 22 }) s m ([.ref (ad h), .ref (ad b1)] : List Value).toArray below meth c H locs 0 0 (MQ below (va_Qi (fun r N => r = sp_X0_meets M h b1 ∧ N = M) (OW D cy ad L s.heap.size) (fA ad L s.heap.size)) ([.ref (ad h), .ref (ad b1)] : List Value).toArray s 0 0 (fA ad L s.heap.size)) (F0 m 49 ls []) := by
    intro  H locs ls  hT hV hC hl
    have hT : sp_X0_meets M h b1 = sp_X0_meets_B50 0 := hT
    have hV : vc_X0_meets_B50 0 := hV
    refine lv_iconst (v := 0) hx hb dX0_meets_49 (by decide) ?_
    exact J50 0 _ _ _  hT hV hC (lv_sub hl [] rfl)
  have J45 : ∀  (H : Heap) (locs : List Loc) (ls : Array Slot) (hT : sp_X0_meets M h b1 = sp_X0_meets_B45 ) (hV : vc_X0_meets_B45 ) (hC : Cx D cy ad R0 L (fA ad L s.heap.size) s M H locs) (hl : lv_has ls 2 []), W p l e ({ frames := 1, cells := 0, slots := 0, locals := 22 }) s m ([.ref (ad h), .ref (ad b1)] : List Value).toArray below meth c H locs 0 0 (MQ below (va_Qi (fun r N => r = sp_X0_meets M h b1 ∧ N = M) (OW D cy ad L s.heap.size) (fA ad L s.heap.size)) ([.ref (ad h), .ref (ad b1)] : List Value).toArray s 0 0 (fA ad L s.heap.size)) (F0 m 45 ls []) := by
    intro  H locs ls  hT hV hC hl
    have hT : sp_X0_meets M h b1 = sp_X0_meets_B50 1 := hT
    have hV : vc_X0_meets_B50 1 := hV
    refine lv_iconst (v := 1) hx hb dX0_meets_45 (by decide) ?_
    refine lv_goto (tgt := 50) hx hb dX0_meets_46 (by decide) ?_
    exact J50 1 _ _ _  hT hV hC (lv_sub hl [] rfl)
  have hT : sp_X0_meets M h b1 = if (sp_X0_isAt M h (gI M b1 0) (gI M b1 1)) = 0 then (if (sp_X0_isAt M h (gI M b1 7) (gI M b1 8)) = 0 then sp_X0_meets_B49 else (if (sp_X0_isAt M b1 (gI M h 7) (gI M h 8)) = 0 then sp_X0_meets_B49 else sp_X0_meets_B45)) else sp_X0_meets_B45 := rfl
  have hV : (vc_X0_isAt M h (gI M b1 0) (gI M b1 1)) ∧ (if (sp_X0_isAt M h (gI M b1 0) (gI M b1 1)) = 0 then ((vc_X0_isAt M h (gI M b1 7) (gI M b1 8)) ∧ (if (sp_X0_isAt M h (gI M b1 7) (gI M b1 8)) = 0 then vc_X0_meets_B49 else ((vc_X0_isAt M b1 (gI M h 7) (gI M h 8)) ∧ (if (sp_X0_isAt M b1 (gI M h 7) (gI M h 8)) = 0 then vc_X0_meets_B49 else vc_X0_meets_B45)))) else vc_X0_meets_B45) := hV
  refine lv_aload_n hx hb dX0_meets_0 rfl (lv_at hl 0 rfl) ?_
  refine lv_aload_n hx hb dX0_meets_1 rfl (lv_at hl 1 rfl) ?_
  refine q_geti (T := TX0) hx hb hB uw_X0 hown hK hC (isA.sh hb1) (hL _ (Nat.le_trans (by decide) (hb1).1) (Nat.le_trans (hb1).2 (by decide))) rfl 0 (by decide) rfl (hB _ mw_1_47) dX0_meets_2 ?_
  refine lv_aload_n hx hb dX0_meets_5 rfl (lv_at hl 1 rfl) ?_
  refine q_geti (T := TX0) hx hb hB uw_X0 hown hK hC (isA.sh hb1) (hL _ (Nat.le_trans (by decide) (hb1).1) (Nat.le_trans (hb1).2 (by decide))) rfl 1 (by decide) rfl (hB _ mw_1_52) dX0_meets_6 ?_
  obtain ⟨v9, hV⟩ : (vc_X0_isAt M h (gI M b1 0) (gI M b1 1)) ∧ (if (sp_X0_isAt M h (gI M b1 0) (gI M b1 1)) = 0 then ((vc_X0_isAt M h (gI M b1 7) (gI M b1 8)) ∧ (if (sp_X0_isAt M h (gI M b1 7) (gI M b1 8)) = 0 then vc_X0_meets_B49 else ((vc_X0_isAt M b1 (gI M h 7) (gI M h 8)) ∧ (if (sp_X0_isAt M b1 (gI M h 7) (gI M h 8)) = 0 then vc_X0_meets_B49 else vc_X0_meets_B45)))) else vc_X0_meets_B45) := hV
  refine q_Ci (q_V (own := "MazeBoard$Actor") (y := yX0_isAt) (As := [.int (gI M b1 0), .int (gI M b1 1)]) (rest := []) ⟨hx, hb, hml, hown, hB⟩ hK hE hC (c_X0_isAt l D cy ad L H.size (hL.sub (by decide) (by decide)) M h hh (gI M b1 0) (gI M b1 1) v9) (isA.sh hh) (hL _ (Nat.le_trans (by decide) (hh).1) (Nat.le_trans (hh).2 (by decide))) rfl mw_2_160 mw_2_149 mw_2_150 mw_1_4 mw_2_151 rfl yd_X0_isAt ⟨rfl, rfl⟩ ⟨Nat.le_of_ble_eq_true rfl, Nat.le_of_ble_eq_true rfl⟩ rfl hl.1 rfl (Nat.le_of_ble_eq_true rfl) dX0_meets_9 ⟨Nat.le_refl _, Nat.le_refl _⟩) hC (fun r N_ H locs hp hC => ?_)
  obtain ⟨hr_, hM_⟩ := hp
  subst hr_
  rw [hM_] at hC
  refine lv_if_ne (tgt := 45) hx hb dX0_meets_12 (by decide) (fun c12 => ?_) (fun c12 => ?_)
  · have hT : sp_X0_meets M h b1 = sp_X0_meets_B45 := hT.trans (if_neg c12)
    have hV : vc_X0_meets_B45 := iteF hV c12
    exact J45  _ _ _  hT hV hC (lv_sub hl [] rfl)
  · have hT : sp_X0_meets M h b1 = if (sp_X0_isAt M h (gI M b1 7) (gI M b1 8)) = 0 then sp_X0_meets_B49 else (if (sp_X0_isAt M b1 (gI M h 7) (gI M h 8)) = 0 then sp_X0_meets_B49 else sp_X0_meets_B45) := hT.trans (if_pos c12)
    have hV : (vc_X0_isAt M h (gI M b1 7) (gI M b1 8)) ∧ (if (sp_X0_isAt M h (gI M b1 7) (gI M b1 8)) = 0 then vc_X0_meets_B49 else ((vc_X0_isAt M b1 (gI M h 7) (gI M h 8)) ∧ (if (sp_X0_isAt M b1 (gI M h 7) (gI M h 8)) = 0 then vc_X0_meets_B49 else vc_X0_meets_B45))) := iteT hV c12
    refine lv_aload_n hx hb dX0_meets_15 rfl (lv_at hl 0 rfl) ?_
    refine lv_aload_n hx hb dX0_meets_16 rfl (lv_at hl 1 rfl) ?_
    refine q_geti (T := TX0) hx hb hB uw_X0 hown hK hC (isA.sh hb1) (hL _ (Nat.le_trans (by decide) (hb1).1) (Nat.le_trans (hb1).2 (by decide))) rfl 7 (by decide) rfl (hB _ mw_1_76) dX0_meets_17 ?_
    refine lv_aload_n hx hb dX0_meets_20 rfl (lv_at hl 1 rfl) ?_
    refine q_geti (T := TX0) hx hb hB uw_X0 hown hK hC (isA.sh hb1) (hL _ (Nat.le_trans (by decide) (hb1).1) (Nat.le_trans (hb1).2 (by decide))) rfl 8 (by decide) rfl (hB _ mw_1_77) dX0_meets_21 ?_
    obtain ⟨v24, hV⟩ : (vc_X0_isAt M h (gI M b1 7) (gI M b1 8)) ∧ (if (sp_X0_isAt M h (gI M b1 7) (gI M b1 8)) = 0 then vc_X0_meets_B49 else ((vc_X0_isAt M b1 (gI M h 7) (gI M h 8)) ∧ (if (sp_X0_isAt M b1 (gI M h 7) (gI M h 8)) = 0 then vc_X0_meets_B49 else vc_X0_meets_B45))) := hV
    refine q_Ci (q_V (own := "MazeBoard$Actor") (y := yX0_isAt) (As := [.int (gI M b1 7), .int (gI M b1 8)]) (rest := []) ⟨hx, hb, hml, hown, hB⟩ hK hE hC (c_X0_isAt l D cy ad L H.size (hL.sub (by decide) (by decide)) M h hh (gI M b1 7) (gI M b1 8) v24) (isA.sh hh) (hL _ (Nat.le_trans (by decide) (hh).1) (Nat.le_trans (hh).2 (by decide))) rfl mw_2_160 mw_2_149 mw_2_150 mw_1_4 mw_2_151 rfl yd_X0_isAt ⟨rfl, rfl⟩ ⟨Nat.le_of_ble_eq_true rfl, Nat.le_of_ble_eq_true rfl⟩ rfl hl.1 rfl (Nat.le_of_ble_eq_true rfl) dX0_meets_24 ⟨Nat.le_refl _, Nat.le_refl _⟩) hC (fun r N_ H locs hp hC => ?_)
    obtain ⟨hr_, hM_⟩ := hp
    subst hr_
    rw [hM_] at hC
    refine lv_if_eq (tgt := 49) hx hb dX0_meets_27 (by decide) (fun c27 => ?_) (fun c27 => ?_)
    · have hT : sp_X0_meets M h b1 = sp_X0_meets_B49 := hT.trans (if_pos c27)
      have hV : vc_X0_meets_B49 := iteT hV c27
      exact J49  _ _ _  hT hV hC (lv_sub hl [] rfl)
    · have hT : sp_X0_meets M h b1 = if (sp_X0_isAt M b1 (gI M h 7) (gI M h 8)) = 0 then sp_X0_meets_B49 else sp_X0_meets_B45 := hT.trans (if_neg c27)
      have hV : (vc_X0_isAt M b1 (gI M h 7) (gI M h 8)) ∧ (if (sp_X0_isAt M b1 (gI M h 7) (gI M h 8)) = 0 then vc_X0_meets_B49 else vc_X0_meets_B45) := iteF hV c27
      refine lv_aload_n hx hb dX0_meets_30 rfl (lv_at hl 1 rfl) ?_
      refine lv_aload_n hx hb dX0_meets_31 rfl (lv_at hl 0 rfl) ?_
      refine q_geti (T := TX0) hx hb hB uw_X0 hown hK hC (isA.sh hh) (hL _ (Nat.le_trans (by decide) (hh).1) (Nat.le_trans (hh).2 (by decide))) rfl 7 (by decide) rfl (hB _ mw_1_76) dX0_meets_32 ?_
      refine lv_aload_n hx hb dX0_meets_35 rfl (lv_at hl 0 rfl) ?_
      refine q_geti (T := TX0) hx hb hB uw_X0 hown hK hC (isA.sh hh) (hL _ (Nat.le_trans (by decide) (hh).1) (Nat.le_trans (hh).2 (by decide))) rfl 8 (by decide) rfl (hB _ mw_1_77) dX0_meets_36 ?_
      obtain ⟨v39, hV⟩ : (vc_X0_isAt M b1 (gI M h 7) (gI M h 8)) ∧ (if (sp_X0_isAt M b1 (gI M h 7) (gI M h 8)) = 0 then vc_X0_meets_B49 else vc_X0_meets_B45) := hV
      refine q_Ci (q_V (own := "MazeBoard$Actor") (y := yX0_isAt) (As := [.int (gI M h 7), .int (gI M h 8)]) (rest := []) ⟨hx, hb, hml, hown, hB⟩ hK hE hC (c_X0_isAt l D cy ad L H.size (hL.sub (by decide) (by decide)) M b1 hb1 (gI M h 7) (gI M h 8) v39) (isA.sh hb1) (hL _ (Nat.le_trans (by decide) (hb1).1) (Nat.le_trans (hb1).2 (by decide))) rfl mw_2_160 mw_2_149 mw_2_150 mw_1_4 mw_2_151 rfl yd_X0_isAt ⟨rfl, rfl⟩ ⟨Nat.le_of_ble_eq_true rfl, Nat.le_of_ble_eq_true rfl⟩ rfl hl.1 rfl (Nat.le_of_ble_eq_true rfl) dX0_meets_39 ⟨Nat.le_refl _, Nat.le_refl _⟩) hC (fun r N_ H locs hp hC => ?_)
      obtain ⟨hr_, hM_⟩ := hp
      subst hr_
      rw [hM_] at hC
      refine lv_if_eq (tgt := 49) hx hb dX0_meets_42 (by decide) (fun c42 => ?_) (fun c42 => ?_)
      · have hT : sp_X0_meets M h b1 = sp_X0_meets_B49 := hT.trans (if_pos c42)
        have hV : vc_X0_meets_B49 := iteT hV c42
        exact J49  _ _ _  hT hV hC (lv_sub hl [] rfl)
      · have hT : sp_X0_meets M h b1 = sp_X0_meets_B45 := hT.trans (if_neg c42)
        have hV : vc_X0_meets_B45 := iteF hV c42
        exact J45  _ _ _  hT hV hC (lv_sub hl [] rfl)
set_option maxHeartbeats 4000000 in
set_option maxRecDepth 100000 in
theorem c_X0_aimAt (l : Launch) (D : va_G) (cy ad : Nat → Nat) (L : List Nat) (sz : Nat) (hL : lr 1 9 L) (M : Mem) (h : Nat) (hh : isA h) (a1 : Int32) (a2 : Int32) : Met l yX0_aimAt (Cond.code yX0_aimAt cX0_aimAt 3 (none) :: BG) ({ frames := 0, cells := 0, slots := 0, locals := 0 }) (va_Pc [.ref (ad h), .int a1, .int a2] (PW D cy ad L M sz)) (va_Qv (fun N => N = sp_X0_aimAt M h a1 a2) (OW D cy ad L sz) (fA ad L sz)) 0 0 (fA ad L sz) := by
  refine q_start (by decide) (Nat.le_of_ble_eq_true rfl) (fun p e s m below meth c H locs ls hsz hx hb hr hlocks hml hown hB hK hE hC hl => ?_)
  subst hsz
  have hown : s.vm.findClass "MazeBoard$Actor" = some m.cls := hown
  have hl : lv_has ls 3 [(0, .ref (ad h)), (1, .int a1), (2, .int a2)] := hl
  have hT : sp_X0_aimAt M h a1 a2 = sp_X0_aimAt_n2 h a2 (wI M h 9 a1) := rfl
  refine lv_aload_n hx hb dX0_aimAt_0 rfl (lv_at hl 0 rfl) ?_
  refine lv_iload_n hx hb dX0_aimAt_1 rfl (lv_at hl 1 rfl) ?_
  refine q_puti (T := TX0) hx hb hB uw_X0 tyX0 tyX0_ok nmX0 hown hK hC (isA.sh hh) (hL _ (Nat.le_trans (by decide) (hh).1) (Nat.le_trans (hh).2 (by decide))) rfl 9 (by decide) rfl (hB _ mw_1_78) rfl rfl rfl rfl dX0_aimAt_2 (fun H locs hC => ?_)
  obtain ⟨M1, eM1⟩ : ∃ z : Mem, z = wI M h 9 a1 := ⟨_, rfl⟩
  rw [← eM1] at hC
  have hT : sp_X0_aimAt M h a1 a2 = sp_X0_aimAt_n2 h a2 M1 := by rw [eM1]; exact hT
  refine lv_aload_n hx hb dX0_aimAt_5 rfl (lv_at hl 0 rfl) ?_
  refine lv_iload_n hx hb dX0_aimAt_6 rfl (lv_at hl 2 rfl) ?_
  refine q_puti (T := TX0) hx hb hB uw_X0 tyX0 tyX0_ok nmX0 hown hK hC (isA.sh hh) (hL _ (Nat.le_trans (by decide) (hh).1) (Nat.le_trans (hh).2 (by decide))) rfl 10 (by decide) rfl (hB _ mw_1_80) rfl rfl rfl rfl dX0_aimAt_7 (fun H locs hC => ?_)
  obtain ⟨M2, eM2⟩ : ∃ z : Mem, z = wI M1 h 10 a2 := ⟨_, rfl⟩
  rw [← eM2] at hC
  have hT : sp_X0_aimAt M h a1 a2 = sp_X0_aimAt_n1 M2 := by rw [eM2]; exact hT
  exact q_retv hx hb hr hlocks hC hT.symm dX0_aimAt_10
set_option maxHeartbeats 4000000 in
set_option maxRecDepth 100000 in
theorem c_X1_placeActors (l : Launch) (D : va_G) (cy ad : Nat → Nat) (L : List Nat) (sz : Nat) (hL : lr 1 9 L) (M : Mem)  (hV : vc_X1_placeActors M ) : Met l yX1_placeActors (Cond.code yX1_placeActors cX1_placeActors 1 (none) :: BG) ({ frames := 1, cells := 0, slots := 0, locals := 24 }) (va_Pc [.ref (ad 1)] (PW D cy ad L M sz)) (va_Qv (fun N => N = sp_X1_placeActors M) (OW D cy ad L sz) (fA ad L sz)) 0 0 (fA ad L sz) := by
  refine q_start (by decide) (Nat.le_of_ble_eq_true rfl) (fun p e s m below meth c H locs ls hsz hx hb hr hlocks hml hown hB hK hE hC hl => ?_)
  subst hsz
  have hown : s.vm.findClass "MazeBoard$Game" = some m.cls := hown
  have hl : lv_has ls 1 [(0, .ref (ad 1))] := hl
  have hT : sp_X1_placeActors M = sp_X1_placeActors_n7 (sp_X0_place M 5 6 6 1 0) := rfl
  have hV : vc_X0_place M 5 6 6 1 0 ∧ (vc_X1_placeActors_n7 (sp_X0_place M 5 6 6 1 0)) := hV
  refine lv_aload_n hx hb dX1_placeActors_0 rfl (lv_at hl 0 rfl) ?_
  refine q_getr (T := TX1) hx hb hB uw_X1 hown hK hC rfl (hL 1 (by decide) (by decide)) rfl 2 (by decide) rfl rfl (hB _ mw_1_131) dX1_placeActors_1 ?_
  refine lv_bipush (v := 6) hx hb dX1_placeActors_4 (by decide) ?_
  refine lv_bipush (v := 6) hx hb dX1_placeActors_6 (by decide) ?_
  refine lv_iconst (v := 1) hx hb dX1_placeActors_8 (by decide) ?_
  refine lv_iconst (v := 0) hx hb dX1_placeActors_9 (by decide) ?_
  obtain ⟨v10, hV⟩ : vc_X0_place M 5 6 6 1 0 ∧ (vc_X1_placeActors_n7 (sp_X0_place M 5 6 6 1 0)) := hV
  refine q_Cv (q_V (own := "MazeBoard$Game") (y := yX0_place) (As := [.int 6, .int 6, .int 1, .int 0]) (rest := []) ⟨hx, hb, hml, hown, hB⟩ hK hE hC (c_X0_place l D cy ad L H.size (hL.sub (by decide) (by decide)) M 5 (⟨by decide, by decide⟩) 6 6 1 0 v10) rfl (hL 5 (by decide) (by decide)) rfl mw_1_123 mw_1_124 mw_1_125 mw_1_4 mw_1_126 rfl yd_X0_place ⟨rfl, rfl⟩ ⟨Nat.le_of_ble_eq_true rfl, Nat.le_of_ble_eq_true rfl⟩ rfl hl.1 rfl (Nat.le_of_ble_eq_true rfl) dX1_placeActors_10 ⟨Nat.le_refl _, Nat.le_refl _⟩) hC (fun M1 H locs eM1 hC => ?_)
  have hT : sp_X1_placeActors M = sp_X1_placeActors_n7 M1 := by rw [eM1]; exact hT
  have hV : vc_X1_placeActors_n7 M1 := by rw [eM1]; exact hV
  refine lv_aload_n hx hb dX1_placeActors_13 rfl (lv_at hl 0 rfl) ?_
  refine q_getr (T := TX1) hx hb hB uw_X1 hown hK hC rfl (hL 1 (by decide) (by decide)) rfl 1 (by decide) rfl rfl (hB _ mw_1_129) dX1_placeActors_14 ?_
  refine lv_iconst (v := 1) hx hb dX1_placeActors_17 (by decide) ?_
  refine q_aald (j := 6) hx hb hK hC rfl (hL 4 (by decide) (by decide)) rfl (by unfold vp_in; decide) (by decide) dX1_placeActors_18 ?_
  refine lv_bipush (v := 6) hx hb dX1_placeActors_19 (by decide) ?_
  refine lv_iconst (v := 2) hx hb dX1_placeActors_21 (by decide) ?_
  refine lv_iconst (v := 1) hx hb dX1_placeActors_22 (by decide) ?_
  refine lv_iconst (v := 0) hx hb dX1_placeActors_23 (by decide) ?_
  obtain ⟨v24, hV⟩ : vc_X0_place M1 6 6 2 1 0 ∧ (vc_X1_placeActors_n6 (sp_X0_place M1 6 6 2 1 0)) := hV
  refine q_Cv (q_V (own := "MazeBoard$Game") (y := yX0_place) (As := [.int 6, .int 2, .int 1, .int 0]) (rest := []) ⟨hx, hb, hml, hown, hB⟩ hK hE hC (c_X0_place l D cy ad L H.size (hL.sub (by decide) (by decide)) M1 6 (⟨by decide, by decide⟩) 6 2 1 0 v24) rfl (hL 6 (by decide) (by decide)) rfl mw_1_123 mw_1_124 mw_1_125 mw_1_4 mw_1_126 rfl yd_X0_place ⟨rfl, rfl⟩ ⟨Nat.le_of_ble_eq_true rfl, Nat.le_of_ble_eq_true rfl⟩ rfl hl.1 rfl (Nat.le_of_ble_eq_true rfl) dX1_placeActors_24 ⟨Nat.le_refl _, Nat.le_refl _⟩) hC (fun M2 H locs eM2 hC => ?_)
  have hT : sp_X1_placeActors M = sp_X1_placeActors_n6 M2 := by rw [eM2]; exact hT
  have hV : vc_X1_placeActors_n6 M2 := by rw [eM2]; exact hV
  refine lv_aload_n hx hb dX1_placeActors_27 rfl (lv_at hl 0 rfl) ?_
  refine q_getr (T := TX1) hx hb hB uw_X1 hown hK hC rfl (hL 1 (by decide) (by decide)) rfl 1 (by decide) rfl rfl (hB _ mw_1_129) dX1_placeActors_28 ?_
  refine lv_iconst (v := 2) hx hb dX1_placeActors_31 (by decide) ?_
  refine q_aald (j := 7) hx hb hK hC rfl (hL 4 (by decide) (by decide)) rfl (by unfold vp_in; decide) (by decide) dX1_placeActors_32 ?_
  refine lv_bipush (v := 6) hx hb dX1_placeActors_33 (by decide) ?_
  refine lv_iconst (v := 4) hx hb dX1_placeActors_35 (by decide) ?_
  refine lv_iconst (v := 0) hx hb dX1_placeActors_36 (by decide) ?_
  refine lv_bipush (v := 40) hx hb dX1_placeActors_37 (by decide) ?_
  obtain ⟨v39, hV⟩ : vc_X0_place M2 7 6 4 0 40 ∧ (vc_X1_placeActors_n5 (sp_X0_place M2 7 6 4 0 40)) := hV
  refine q_Cv (q_V (own := "MazeBoard$Game") (y := yX0_place) (As := [.int 6, .int 4, .int 0, .int 40]) (rest := []) ⟨hx, hb, hml, hown, hB⟩ hK hE hC (c_X0_place l D cy ad L H.size (hL.sub (by decide) (by decide)) M2 7 (⟨by decide, by decide⟩) 6 4 0 40 v39) rfl (hL 7 (by decide) (by decide)) rfl mw_1_123 mw_1_124 mw_1_125 mw_1_4 mw_1_126 rfl yd_X0_place ⟨rfl, rfl⟩ ⟨Nat.le_of_ble_eq_true rfl, Nat.le_of_ble_eq_true rfl⟩ rfl hl.1 rfl (Nat.le_of_ble_eq_true rfl) dX1_placeActors_39 ⟨Nat.le_refl _, Nat.le_refl _⟩) hC (fun M3 H locs eM3 hC => ?_)
  have hT : sp_X1_placeActors M = sp_X1_placeActors_n5 M3 := by rw [eM3]; exact hT
  have hV : vc_X1_placeActors_n5 M3 := by rw [eM3]; exact hV
  refine lv_aload_n hx hb dX1_placeActors_42 rfl (lv_at hl 0 rfl) ?_
  refine q_getr (T := TX1) hx hb hB uw_X1 hown hK hC rfl (hL 1 (by decide) (by decide)) rfl 1 (by decide) rfl rfl (hB _ mw_1_129) dX1_placeActors_43 ?_
  refine lv_iconst (v := 3) hx hb dX1_placeActors_46 (by decide) ?_
  refine q_aald (j := 8) hx hb hK hC rfl (hL 4 (by decide) (by decide)) rfl (by unfold vp_in; decide) (by decide) dX1_placeActors_47 ?_
  refine lv_iconst (v := 5) hx hb dX1_placeActors_48 (by decide) ?_
  refine lv_iconst (v := 4) hx hb dX1_placeActors_49 (by decide) ?_
  refine lv_iconst (v := 0) hx hb dX1_placeActors_50 (by decide) ?_
  refine lv_bipush (v := 80) hx hb dX1_placeActors_51 (by decide) ?_
  obtain ⟨v53, hV⟩ : vc_X0_place M3 8 5 4 0 80 ∧ (vc_X1_placeActors_n4 (sp_X0_place M3 8 5 4 0 80)) := hV
  refine q_Cv (q_V (own := "MazeBoard$Game") (y := yX0_place) (As := [.int 5, .int 4, .int 0, .int 80]) (rest := []) ⟨hx, hb, hml, hown, hB⟩ hK hE hC (c_X0_place l D cy ad L H.size (hL.sub (by decide) (by decide)) M3 8 (⟨by decide, by decide⟩) 5 4 0 80 v53) rfl (hL 8 (by decide) (by decide)) rfl mw_1_123 mw_1_124 mw_1_125 mw_1_4 mw_1_126 rfl yd_X0_place ⟨rfl, rfl⟩ ⟨Nat.le_of_ble_eq_true rfl, Nat.le_of_ble_eq_true rfl⟩ rfl hl.1 rfl (Nat.le_of_ble_eq_true rfl) dX1_placeActors_53 ⟨Nat.le_refl _, Nat.le_refl _⟩) hC (fun M4 H locs eM4 hC => ?_)
  have hT : sp_X1_placeActors M = sp_X1_placeActors_n4 M4 := by rw [eM4]; exact hT
  have hV : vc_X1_placeActors_n4 M4 := by rw [eM4]; exact hV
  refine lv_aload_n hx hb dX1_placeActors_56 rfl (lv_at hl 0 rfl) ?_
  refine q_getr (T := TX1) hx hb hB uw_X1 hown hK hC rfl (hL 1 (by decide) (by decide)) rfl 1 (by decide) rfl rfl (hB _ mw_1_129) dX1_placeActors_57 ?_
  refine lv_iconst (v := 4) hx hb dX1_placeActors_60 (by decide) ?_
  refine q_aald (j := 9) hx hb hK hC rfl (hL 4 (by decide) (by decide)) rfl (by unfold vp_in; decide) (by decide) dX1_placeActors_61 ?_
  refine lv_bipush (v := 7) hx hb dX1_placeActors_62 (by decide) ?_
  refine lv_iconst (v := 4) hx hb dX1_placeActors_64 (by decide) ?_
  refine lv_iconst (v := 0) hx hb dX1_placeActors_65 (by decide) ?_
  refine lv_bipush (v := 120) hx hb dX1_placeActors_66 (by decide) ?_
  have v68 : vc_X0_place M4 9 7 4 0 120 := hV
  refine q_Cv (q_V (own := "MazeBoard$Game") (y := yX0_place) (As := [.int 7, .int 4, .int 0, .int 120]) (rest := []) ⟨hx, hb, hml, hown, hB⟩ hK hE hC (c_X0_place l D cy ad L H.size (hL.sub (by decide) (by decide)) M4 9 (⟨by decide, by decide⟩) 7 4 0 120 v68) rfl (hL 9 (by decide) (by decide)) rfl mw_1_123 mw_1_124 mw_1_125 mw_1_4 mw_1_126 rfl yd_X0_place ⟨rfl, rfl⟩ ⟨Nat.le_of_ble_eq_true rfl, Nat.le_of_ble_eq_true rfl⟩ rfl hl.1 rfl (Nat.le_of_ble_eq_true rfl) dX1_placeActors_68 ⟨Nat.le_refl _, Nat.le_refl _⟩) hC (fun M5 H locs eM5 hC => ?_)
  have hT : sp_X1_placeActors M = sp_X1_placeActors_n3 M5 := by rw [eM5]; exact hT
  refine lv_aload_n hx hb dX1_placeActors_71 rfl (lv_at hl 0 rfl) ?_
  refine lv_iconst (v := 0) hx hb dX1_placeActors_72 (by decide) ?_
  refine q_puti (T := TX1) hx hb hB uw_X1 tyX1 tyX1_ok nmX1 hown hK hC rfl (hL 1 (by decide) (by decide)) rfl 10 (by decide) rfl (hB _ mw_1_146) rfl rfl rfl rfl dX1_placeActors_73 (fun H locs hC => ?_)
  obtain ⟨M6, eM6⟩ : ∃ z : Mem, z = wI M5 1 10 0 := ⟨_, rfl⟩
  rw [← eM6] at hC
  have hT : sp_X1_placeActors M = sp_X1_placeActors_n2 M6 := by rw [eM6]; exact hT
  refine lv_aload_n hx hb dX1_placeActors_76 rfl (lv_at hl 0 rfl) ?_
  refine lv_iconst (v := 0) hx hb dX1_placeActors_77 (by decide) ?_
  refine q_puti (T := TX1) hx hb hB uw_X1 tyX1 tyX1_ok nmX1 hown hK hC rfl (hL 1 (by decide) (by decide)) rfl 11 (by decide) rfl (hB _ mw_1_148) rfl rfl rfl rfl dX1_placeActors_78 (fun H locs hC => ?_)
  obtain ⟨M7, eM7⟩ : ∃ z : Mem, z = wI M6 1 11 0 := ⟨_, rfl⟩
  rw [← eM7] at hC
  have hT : sp_X1_placeActors M = sp_X1_placeActors_n1 M7 := by rw [eM7]; exact hT
  exact q_retv hx hb hr hlocks hC hT.symm dX1_placeActors_81
set_option maxHeartbeats 4000000 in
set_option maxRecDepth 100000 in
theorem c_X2_refill (l : Launch) (D : va_G) (cy ad : Nat → Nat) (L : List Nat) (sz : Nat) (hL : lr 1 9 L) (M : Mem)  (hV : vc_X2_refill M ) : Met l yX2_refill (Cond.code yX2_refill cX2_refill 2 (none) :: BG) ({ frames := 0, cells := 0, slots := 0, locals := 0 }) (va_Pc [.ref (ad 2)] (PW D cy ad L M sz)) (va_Qv (fun N => N = sp_X2_refill M) (OW D cy ad L sz) (fA ad L sz)) 0 0 (fA ad L sz) := by
  refine q_start (by decide) (Nat.le_of_ble_eq_true rfl) (fun p e s m below meth c H locs ls hsz hx hb hr hlocks hml hown hB hK hE hC hl => ?_)
  subst hsz
  have hown : s.vm.findClass "MazeBoard$Maze" = some m.cls := hown
  have hl : lv_has ls 2 [(0, .ref (ad 2))] := hl
  obtain ⟨tP, hPZ, hPT⟩ := hE.1
  have J7 : ∀ (n : Nat) (x2 : Int32) (M3 : Mem) (H : Heap) (locs : List Loc) (ls : Array Slot) (hT : sp_X2_refill M = sp_X2_refill_B7 n x2 M3) (hV : vc_X2_refill_B7 n x2 M3) (hC : Cx D cy ad R0 L (fA ad L s.heap.size) s M3 H locs) (hl : lv_has ls 2 [(0, .ref (ad 2)), (1, .int x2)]), W p l e ({ frames := 0, cells := 0, slots := 0, locals := 0 }) s m ([.ref (ad 2)] : List Value).toArray below meth c H locs 0 0 (MQ below (va_Qv (fun N => N = sp_X2_refill M) (OW D cy ad L s.heap.size) (fA ad L s.heap.size)) ([.ref (ad 2)] : List Value).toArray s 0 0 (fA ad L s.heap.size)) (F0 m 7 ls []) := by
    intro n
    induction n with
    | zero => intro x2 M3 H locs ls  hT hV; exact hV.elim
    | succ n ih =>
      have J57 : ∀ (x2 : Int32) (M6 : Mem) (H : Heap) (locs : List Loc) (ls : Array Slot) (hT : sp_X2_refill M = sp_X2_refill_B57 (sp_X2_refill_B7 n) x2 M6) (hV : vc_X2_refill_B57 (vc_X2_refill_B7 n) x2 M6) (hC : Cx D cy ad R0 L (fA ad L s.heap.size) s M6 H locs) (hl : lv_has ls 2 [(0, .ref (ad 2)), (1, .int x2)]), W p l e ({ frames := 0, cells := 0, slots := 0, locals := 0 }) s m ([.ref (ad 2)] : List Value).toArray below meth c H locs 0 0 (MQ below (va_Qv (fun N => N = sp_X2_refill M) (OW D cy ad L s.heap.size) (fA ad L s.heap.size)) ([.ref (ad 2)] : List Value).toArray s 0 0 (fA ad L s.heap.size)) (F0 m 57 ls []) := by
        intro x2 M6 H locs ls  hT hV hC hl
        have hT : sp_X2_refill M = sp_X2_refill_n1 (sp_X2_refill_B7 n) M6 (x2 + 1) := hT
        have hV : vc_X2_refill_n1 (vc_X2_refill_B7 n) M6 (x2 + 1) := hV
        obtain ⟨x7, ex7⟩ : ∃ z : Int32, z = x2 + 1 := ⟨_, rfl⟩
        have hT : sp_X2_refill M = sp_X2_refill_n1 (sp_X2_refill_B7 n) M6 x7 := by rw [ex7]; exact hT
        have hV : vc_X2_refill_n1 (vc_X2_refill_B7 n) M6 x7 := by rw [ex7]; exact hV
        refine lv_iinc (v := x7) (lv' := [(1, .int x7), (0, .ref (ad 2))]) hx hb dX2_refill_57 hl (k := 1) rfl (by rw [ex7]; rfl) (by decide) rfl (fun ls hl => ?_)
        refine lv_goto (tgt := 7) hx hb dX2_refill_60 (by decide) ?_
        exact ih x7 M6 _ _ _  hT hV hC (lv_sub hl [1, 0] rfl)
      have J47 : ∀ (x2 : Int32) (M4 : Mem) (H : Heap) (locs : List Loc) (ls : Array Slot) (hT : sp_X2_refill M = sp_X2_refill_B47 (sp_X2_refill_B7 n) x2 M4) (hV : vc_X2_refill_B47 (vc_X2_refill_B7 n) x2 M4) (hC : Cx D cy ad R0 L (fA ad L s.heap.size) s M4 H locs) (hl : lv_has ls 2 [(0, .ref (ad 2)), (1, .int x2)]), W p l e ({ frames := 0, cells := 0, slots := 0, locals := 0 }) s m ([.ref (ad 2)] : List Value).toArray below meth c H locs 0 0 (MQ below (va_Qv (fun N => N = sp_X2_refill M) (OW D cy ad L s.heap.size) (fA ad L s.heap.size)) ([.ref (ad 2)] : List Value).toArray s 0 0 (fA ad L s.heap.size)) (F0 m 47 ls []) := by
        intro x2 M4 H locs ls  hT hV hC hl
        have hT : sp_X2_refill M = sp_X2_refill_n2 (sp_X2_refill_B7 n) x2 (wI M4 2 1 ((gI M4 2 1) + 1)) := hT
        have hV : vc_X2_refill_n2 (vc_X2_refill_B7 n) x2 (wI M4 2 1 ((gI M4 2 1) + 1)) := hV
        refine lv_aload_n hx hb dX2_refill_47 rfl (lv_at hl 0 rfl) ?_
        refine lv_dup hx hb dX2_refill_48 rfl ?_
        refine q_geti (T := TX2) hx hb hB uw_X2 hown hK hC rfl (hL 2 (by decide) (by decide)) rfl 1 (by decide) rfl (hB _ mw_1_31) dX2_refill_49 ?_
        refine lv_iconst (v := 1) hx hb dX2_refill_52 (by decide) ?_
        refine lv_iadd hx hb dX2_refill_53 ?_
        refine q_puti (T := TX2) hx hb hB uw_X2 tyX2 tyX2_ok nmX2 hown hK hC rfl (hL 2 (by decide) (by decide)) rfl 1 (by decide) rfl (hB _ mw_1_31) rfl rfl rfl rfl dX2_refill_54 (fun H locs hC => ?_)
        obtain ⟨M5, eM5⟩ : ∃ z : Mem, z = wI M4 2 1 ((gI M4 2 1) + 1) := ⟨_, rfl⟩
        rw [← eM5] at hC
        have hT : sp_X2_refill M = sp_X2_refill_n2 (sp_X2_refill_B7 n) x2 M5 := by rw [eM5]; exact hT
        have hV : vc_X2_refill_n2 (vc_X2_refill_B7 n) x2 M5 := by rw [eM5]; exact hV
        exact J57 x2 M5 _ _ _  hT hV hC (lv_sub hl [0, 1] rfl)
      intro x2 M3 H locs ls  hT hV hC hl
      have hT : sp_X2_refill M = if 117 ≤ x2 then M3 else (sp_X2_refill_n3 (sp_X2_refill_B7 n) x2 (wI M3 3 x2.toNatClampNeg (vp_nar .byte (planF x2.toNatClampNeg)))) := hT
      have hV : if 117 ≤ x2 then True else (vp_in x2 117 ∧ (vp_in x2 117 ∧ (vc_X2_refill_n3 (vc_X2_refill_B7 n) x2 (wI M3 3 x2.toNatClampNeg (vp_nar .byte (planF x2.toNatClampNeg)))))) := hV
      refine lv_iload_n hx hb dX2_refill_7 rfl (lv_at hl 1 rfl) ?_
      refine lv_aload_n hx hb dX2_refill_8 rfl (lv_at hl 0 rfl) ?_
      refine q_getr (T := TX2) hx hb hB uw_X2 hown hK hC rfl (hL 2 (by decide) (by decide)) rfl 0 (by decide) rfl rfl (hB _ mw_1_30) dX2_refill_9 ?_
      refine q_alen hx hb hK hC rfl (hL 3 (by decide) (by decide)) (v := 117) (by decide) dX2_refill_12 ?_
      refine lv_icmp_ge (tgt := 63) hx hb dX2_refill_13 (by decide) (fun c13 => ?_) (fun c13 => ?_)
      · have hT : sp_X2_refill M = M3 := hT.trans (if_pos c13)
        exact q_retv hx hb hr hlocks hC hT.symm dX2_refill_63
      · have hT : sp_X2_refill M = sp_X2_refill_n3 (sp_X2_refill_B7 n) x2 (wI M3 3 x2.toNatClampNeg (vp_nar .byte (planF x2.toNatClampNeg))) := hT.trans (if_neg c13)
        have hV : vp_in x2 117 ∧ (vp_in x2 117 ∧ (vc_X2_refill_n3 (vc_X2_refill_B7 n) x2 (wI M3 3 x2.toNatClampNeg (vp_nar .byte (planF x2.toNatClampNeg))))) := iteF hV c13
        refine lv_aload_n hx hb dX2_refill_16 rfl (lv_at hl 0 rfl) ?_
        refine q_getr (T := TX2) hx hb hB uw_X2 hown hK hC rfl (hL 2 (by decide) (by decide)) rfl 0 (by decide) rfl rfl (hB _ mw_1_30) dX2_refill_17 ?_
        refine lv_iload_n hx hb dX2_refill_20 rfl (lv_at hl 1 rfl) ?_
        refine va_gets hx hb hPZ hC.2.2 hown (hB _ mw_1_117) (fun _ h9 => h9) dX2_refill_21 ?_
        refine lv_iload_n hx hb dX2_refill_24 rfl (lv_at hl 1 rfl) ?_
        obtain ⟨w25, hV⟩ : vp_in x2 117 ∧ (vp_in x2 117 ∧ (vc_X2_refill_n3 (vc_X2_refill_B7 n) x2 (wI M3 3 x2.toNatClampNeg (vp_nar .byte (planF x2.toNatClampNeg))))) := hV
        refine va_tb hx hb hPT hC.2.2 w25 rfl dX2_refill_25 ?_
        obtain ⟨w26, hV⟩ : vp_in x2 117 ∧ (vc_X2_refill_n3 (vc_X2_refill_B7 n) x2 (wI M3 3 x2.toNatClampNeg (vp_nar .byte (planF x2.toNatClampNeg)))) := hV
        refine q_bast (v := vp_nar .byte (planF x2.toNatClampNeg)) hx hb hK hC rfl (hL 3 (by decide) (by decide)) rfl w26 rfl rfl dX2_refill_26 (fun H locs hC => ?_)
        obtain ⟨M4, eM4⟩ : ∃ z : Mem, z = wI M3 3 x2.toNatClampNeg (vp_nar .byte (planF x2.toNatClampNeg)) := ⟨_, rfl⟩
        rw [← eM4] at hC
        have hT : sp_X2_refill M = sp_X2_refill_n3 (sp_X2_refill_B7 n) x2 M4 := by rw [eM4]; exact hT
        have hV : vc_X2_refill_n3 (vc_X2_refill_B7 n) x2 M4 := by rw [eM4]; exact hV
        refine lv_aload_n hx hb dX2_refill_27 rfl (lv_at hl 0 rfl) ?_
        refine q_getr (T := TX2) hx hb hB uw_X2 hown hK hC rfl (hL 2 (by decide) (by decide)) rfl 0 (by decide) rfl rfl (hB _ mw_1_30) dX2_refill_28 ?_
        refine lv_iload_n hx hb dX2_refill_31 rfl (lv_at hl 1 rfl) ?_
        obtain ⟨w32, hV⟩ : vp_in x2 117 ∧ (if (gI M4 3 x2.toNatClampNeg) = 2 then vc_X2_refill_B47 (vc_X2_refill_B7 n) x2 M4 else (vp_in x2 117 ∧ (if (gI M4 3 x2.toNatClampNeg) = 3 then vc_X2_refill_B47 (vc_X2_refill_B7 n) x2 M4 else vc_X2_refill_B57 (vc_X2_refill_B7 n) x2 M4))) := hV
        refine q_bald hx hb hK hC rfl (hL 3 (by decide) (by decide)) rfl w32 rfl dX2_refill_32 ?_
        refine lv_iconst (v := 2) hx hb dX2_refill_33 (by decide) ?_
        refine lv_icmp_eq (tgt := 47) hx hb dX2_refill_34 (by decide) (fun c34 => ?_) (fun c34 => ?_)
        · have hT : sp_X2_refill M = sp_X2_refill_B47 (sp_X2_refill_B7 n) x2 M4 := hT.trans (if_pos c34)
          have hV : vc_X2_refill_B47 (vc_X2_refill_B7 n) x2 M4 := iteT hV c34
          exact J47 x2 M4 _ _ _  hT hV hC (lv_sub hl [0, 1] rfl)
        · have hT : sp_X2_refill M = if (gI M4 3 x2.toNatClampNeg) = 3 then (sp_X2_refill_B47 (sp_X2_refill_B7 n) x2 M4) else (sp_X2_refill_B57 (sp_X2_refill_B7 n) x2 M4) := hT.trans (if_neg c34)
          have hV : vp_in x2 117 ∧ (if (gI M4 3 x2.toNatClampNeg) = 3 then vc_X2_refill_B47 (vc_X2_refill_B7 n) x2 M4 else vc_X2_refill_B57 (vc_X2_refill_B7 n) x2 M4) := iteF hV c34
          refine lv_aload_n hx hb dX2_refill_37 rfl (lv_at hl 0 rfl) ?_
          refine q_getr (T := TX2) hx hb hB uw_X2 hown hK hC rfl (hL 2 (by decide) (by decide)) rfl 0 (by decide) rfl rfl (hB _ mw_1_30) dX2_refill_38 ?_
          refine lv_iload_n hx hb dX2_refill_41 rfl (lv_at hl 1 rfl) ?_
          obtain ⟨w42, hV⟩ : vp_in x2 117 ∧ (if (gI M4 3 x2.toNatClampNeg) = 3 then vc_X2_refill_B47 (vc_X2_refill_B7 n) x2 M4 else vc_X2_refill_B57 (vc_X2_refill_B7 n) x2 M4) := hV
          refine q_bald hx hb hK hC rfl (hL 3 (by decide) (by decide)) rfl w42 rfl dX2_refill_42 ?_
          refine lv_iconst (v := 3) hx hb dX2_refill_43 (by decide) ?_
          refine lv_icmp_ne (tgt := 57) hx hb dX2_refill_44 (by decide) (fun c44 => ?_) (fun c44 => ?_)
          · have hT : sp_X2_refill M = sp_X2_refill_B57 (sp_X2_refill_B7 n) x2 M4 := hT.trans (if_neg c44)
            have hV : vc_X2_refill_B57 (vc_X2_refill_B7 n) x2 M4 := iteF hV c44
            exact J57 x2 M4 _ _ _  hT hV hC (lv_sub hl [0, 1] rfl)
          · have hT : sp_X2_refill M = sp_X2_refill_B47 (sp_X2_refill_B7 n) x2 M4 := hT.trans (if_pos c44)
            have hV : vc_X2_refill_B47 (vc_X2_refill_B7 n) x2 M4 := iteT hV c44
            exact J47 x2 M4 _ _ _  hT hV hC (lv_sub hl [0, 1] rfl)
  have hT : sp_X2_refill M = sp_X2_refill_n4 (wI M 2 1 0) := rfl
  have hV : vc_X2_refill_n4 (wI M 2 1 0) := hV
  refine lv_aload_n hx hb dX2_refill_0 rfl (lv_at hl 0 rfl) ?_
  refine lv_iconst (v := 0) hx hb dX2_refill_1 (by decide) ?_
  refine q_puti (T := TX2) hx hb hB uw_X2 tyX2 tyX2_ok nmX2 hown hK hC rfl (hL 2 (by decide) (by decide)) rfl 1 (by decide) rfl (hB _ mw_1_31) rfl rfl rfl rfl dX2_refill_2 (fun H locs hC => ?_)
  obtain ⟨M1, eM1⟩ : ∃ z : Mem, z = wI M 2 1 0 := ⟨_, rfl⟩
  rw [← eM1] at hC
  have hT : sp_X2_refill M = sp_X2_refill_n4 M1 := by rw [eM1]; exact hT
  have hV : vc_X2_refill_n4 M1 := by rw [eM1]; exact hV
  refine lv_iconst (v := 0) hx hb dX2_refill_5 (by decide) ?_
  refine lv_istore_n (lv' := [(1, .int 0), (0, .ref (ad 2))]) hx hb dX2_refill_6 rfl hl (by decide) rfl (fun ls hl => ?_)
  exact J7 118 0 M1 _ _ _  hT hV hC (lv_sub hl [1, 0] rfl)
set_option maxHeartbeats 4000000 in
set_option maxRecDepth 100000 in
theorem c_X1_setUp (l : Launch) (D : va_G) (cy ad : Nat → Nat) (L : List Nat) (sz : Nat) (hL : lr 1 9 L) (M : Mem)  (hV : vc_X1_setUp M ) : Met l yX1_setUp (Cond.code yX1_setUp cX1_setUp 1 (none) :: BG) ({ frames := 2, cells := 0, slots := 0, locals := 44 }) (va_Pc [.ref (ad 1)] (PW D cy ad L M sz)) (va_Qv (fun N => N = sp_X1_setUp M) (OW D cy ad L sz) (fA ad L sz)) 0 0 (fA ad L sz) := by
  refine q_start (by decide) (Nat.le_of_ble_eq_true rfl) (fun p e s m below meth c H locs ls hsz hx hb hr hlocks hml hown hB hK hE hC hl => ?_)
  subst hsz
  have hown : s.vm.findClass "MazeBoard$Game" = some m.cls := hown
  have hl : lv_has ls 1 [(0, .ref (ad 1))] := hl
  have hT : sp_X1_setUp M = sp_X1_setUp_n6 (wI M 1 4 0) := rfl
  have hV : vc_X1_setUp_n6 (wI M 1 4 0) := hV
  refine lv_aload_n hx hb dX1_setUp_0 rfl (lv_at hl 0 rfl) ?_
  refine lv_iconst (v := 0) hx hb dX1_setUp_1 (by decide) ?_
  refine q_puti (T := TX1) hx hb hB uw_X1 tyX1 tyX1_ok nmX1 hown hK hC rfl (hL 1 (by decide) (by decide)) rfl 4 (by decide) rfl (hB _ mw_1_135) rfl rfl rfl rfl dX1_setUp_2 (fun H locs hC => ?_)
  obtain ⟨M1, eM1⟩ : ∃ z : Mem, z = wI M 1 4 0 := ⟨_, rfl⟩
  rw [← eM1] at hC
  have hT : sp_X1_setUp M = sp_X1_setUp_n6 M1 := by rw [eM1]; exact hT
  have hV : vc_X1_setUp_n6 M1 := by rw [eM1]; exact hV
  refine lv_aload_n hx hb dX1_setUp_5 rfl (lv_at hl 0 rfl) ?_
  refine lv_iconst (v := 0) hx hb dX1_setUp_6 (by decide) ?_
  refine q_puti (T := TX1) hx hb hB uw_X1 tyX1 tyX1_ok nmX1 hown hK hC rfl (hL 1 (by decide) (by decide)) rfl 8 (by decide) rfl (hB _ mw_1_143) rfl rfl rfl rfl dX1_setUp_7 (fun H locs hC => ?_)
  obtain ⟨M2, eM2⟩ : ∃ z : Mem, z = wI M1 1 8 0 := ⟨_, rfl⟩
  rw [← eM2] at hC
  have hT : sp_X1_setUp M = sp_X1_setUp_n5 M2 := by rw [eM2]; exact hT
  have hV : vc_X1_setUp_n5 M2 := by rw [eM2]; exact hV
  refine lv_aload_n hx hb dX1_setUp_10 rfl (lv_at hl 0 rfl) ?_
  refine lv_iconst (v := 0) hx hb dX1_setUp_11 (by decide) ?_
  refine q_puti (T := TX1) hx hb hB uw_X1 tyX1 tyX1_ok nmX1 hown hK hC rfl (hL 1 (by decide) (by decide)) rfl 9 (by decide) rfl (hB _ mw_1_145) rfl rfl (by decide) (by decide) dX1_setUp_12 (fun H locs hC => ?_)
  obtain ⟨M3, eM3⟩ : ∃ z : Mem, z = wI M2 1 9 0 := ⟨_, rfl⟩
  rw [← eM3] at hC
  have hT : sp_X1_setUp M = sp_X1_setUp_n4 M3 := by rw [eM3]; exact hT
  have hV : vc_X1_setUp_n4 M3 := by rw [eM3]; exact hV
  refine lv_aload_n hx hb dX1_setUp_15 rfl (lv_at hl 0 rfl) ?_
  refine lv_iconst (v := 1) hx hb dX1_setUp_16 (by decide) ?_
  refine q_puti (T := TX1) hx hb hB uw_X1 tyX1 tyX1_ok nmX1 hown hK hC rfl (hL 1 (by decide) (by decide)) rfl 12 (by decide) rfl (hB _ mw_1_150) rfl rfl rfl rfl dX1_setUp_17 (fun H locs hC => ?_)
  obtain ⟨M4, eM4⟩ : ∃ z : Mem, z = wI M3 1 12 1 := ⟨_, rfl⟩
  rw [← eM4] at hC
  have hT : sp_X1_setUp M = sp_X1_setUp_n3 M4 := by rw [eM4]; exact hT
  have hV : vc_X1_setUp_n3 M4 := by rw [eM4]; exact hV
  refine lv_aload_n hx hb dX1_setUp_20 rfl (lv_at hl 0 rfl) ?_
  refine q_getr (T := TX1) hx hb hB uw_X1 hown hK hC rfl (hL 1 (by decide) (by decide)) rfl 0 (by decide) rfl rfl (hB _ mw_1_127) dX1_setUp_21 ?_
  obtain ⟨v24, hV⟩ : vc_X2_refill M4 ∧ (vc_X1_setUp_n2 (sp_X2_refill M4)) := hV
  refine q_Cv (q_V (own := "MazeBoard$Game") (y := yX2_refill) (As := []) (rest := []) ⟨hx, hb, hml, hown, hB⟩ hK hE hC (c_X2_refill l D cy ad L H.size (hL.sub (by decide) (by decide)) M4  v24) rfl (hL 2 (by decide) (by decide)) rfl mw_1_113 mw_1_114 mw_1_115 mw_1_3 mw_1_116 rfl yd_X2_refill ⟨rfl, rfl⟩ ⟨Nat.le_of_ble_eq_true rfl, Nat.le_of_ble_eq_true rfl⟩ rfl hl.1 rfl (Nat.le_of_ble_eq_true rfl) dX1_setUp_24 ⟨Nat.le_refl _, Nat.le_refl _⟩) hC (fun M5 H locs eM5 hC => ?_)
  have hT : sp_X1_setUp M = sp_X1_setUp_n2 M5 := by rw [eM5]; exact hT
  have hV : vc_X1_setUp_n2 M5 := by rw [eM5]; exact hV
  refine lv_aload_n hx hb dX1_setUp_27 rfl (lv_at hl 0 rfl) ?_
  have v28 : vc_X1_placeActors M5 := hV
  refine q_Cv (q_V (own := "MazeBoard$Game") (y := yX1_placeActors) (As := []) (rest := []) ⟨hx, hb, hml, hown, hB⟩ hK hE hC (c_X1_placeActors l D cy ad L H.size (hL.sub (by decide) (by decide)) M5  v28) rfl (hL 1 (by decide) (by decide)) rfl mw_1_119 mw_1_121 mw_0_1 mw_1_2 mw_1_122 rfl yd_X1_placeActors ⟨rfl, rfl⟩ ⟨Nat.le_of_ble_eq_true rfl, Nat.le_of_ble_eq_true rfl⟩ rfl hl.1 rfl (Nat.le_of_ble_eq_true rfl) dX1_setUp_28 ⟨Nat.le_refl _, Nat.le_refl _⟩) hC (fun M6 H locs eM6 hC => ?_)
  have hT : sp_X1_setUp M = sp_X1_setUp_n1 M6 := by rw [eM6]; exact hT
  exact q_retv hx hb hr hlocks hC hT.symm dX1_setUp_31
set_option maxHeartbeats 4000000 in
set_option maxRecDepth 100000 in
theorem c_X1_clear (l : Launch) (D : va_G) (cy ad : Nat → Nat) (L : List Nat) (sz : Nat) (hL : lr 1 9 L) (M : Mem)  (hV : vc_X1_clear M ) : Met l yX1_clear (Cond.code yX1_clear cX1_clear 1 (none) :: BG) ({ frames := 3, cells := 0, slots := 0, locals := 64 }) (va_Pc [.ref (ad 1)] (PW D cy ad L M sz)) (va_Qv (fun N => N = sp_X1_clear M) (OW D cy ad L sz) (fA ad L sz)) 0 0 (fA ad L sz) := by
  refine q_start (by decide) (Nat.le_of_ble_eq_true rfl) (fun p e s m below meth c H locs ls hsz hx hb hr hlocks hml hown hB hK hE hC hl => ?_)
  subst hsz
  have hown : s.vm.findClass "MazeBoard$Game" = some m.cls := hown
  have hl : lv_has ls 1 [(0, .ref (ad 1))] := hl
  have hT : sp_X1_clear M = sp_X1_clear_n4 (wI M 1 3 0) := rfl
  have hV : vc_X1_clear_n4 (wI M 1 3 0) := hV
  refine lv_aload_n hx hb dX1_clear_0 rfl (lv_at hl 0 rfl) ?_
  refine lv_iconst (v := 0) hx hb dX1_clear_1 (by decide) ?_
  refine q_puti (T := TX1) hx hb hB uw_X1 tyX1 tyX1_ok nmX1 hown hK hC rfl (hL 1 (by decide) (by decide)) rfl 3 (by decide) rfl (hB _ mw_1_132) rfl rfl (by decide) (by decide) dX1_clear_2 (fun H locs hC => ?_)
  obtain ⟨M1, eM1⟩ : ∃ z : Mem, z = wI M 1 3 0 := ⟨_, rfl⟩
  rw [← eM1] at hC
  have hT : sp_X1_clear M = sp_X1_clear_n4 M1 := by rw [eM1]; exact hT
  have hV : vc_X1_clear_n4 M1 := by rw [eM1]; exact hV
  refine lv_aload_n hx hb dX1_clear_5 rfl (lv_at hl 0 rfl) ?_
  refine lv_iconst (v := 0) hx hb dX1_clear_6 (by decide) ?_
  refine q_puti (T := TX1) hx hb hB uw_X1 tyX1 tyX1_ok nmX1 hown hK hC rfl (hL 1 (by decide) (by decide)) rfl 6 (by decide) rfl (hB _ mw_1_139) rfl rfl rfl rfl dX1_clear_7 (fun H locs hC => ?_)
  obtain ⟨M2, eM2⟩ : ∃ z : Mem, z = wI M1 1 6 0 := ⟨_, rfl⟩
  rw [← eM2] at hC
  have hT : sp_X1_clear M = sp_X1_clear_n3 M2 := by rw [eM2]; exact hT
  have hV : vc_X1_clear_n3 M2 := by rw [eM2]; exact hV
  refine lv_aload_n hx hb dX1_clear_10 rfl (lv_at hl 0 rfl) ?_
  refine lv_iconst (v := 0) hx hb dX1_clear_11 (by decide) ?_
  refine q_puti (T := TX1) hx hb hB uw_X1 tyX1 tyX1_ok nmX1 hown hK hC rfl (hL 1 (by decide) (by decide)) rfl 7 (by decide) rfl (hB _ mw_1_141) rfl rfl rfl rfl dX1_clear_12 (fun H locs hC => ?_)
  obtain ⟨M3, eM3⟩ : ∃ z : Mem, z = wI M2 1 7 0 := ⟨_, rfl⟩
  rw [← eM3] at hC
  have hT : sp_X1_clear M = sp_X1_clear_n2 M3 := by rw [eM3]; exact hT
  have hV : vc_X1_clear_n2 M3 := by rw [eM3]; exact hV
  refine lv_aload_n hx hb dX1_clear_15 rfl (lv_at hl 0 rfl) ?_
  have v16 : vc_X1_setUp M3 := hV
  refine q_Cv (q_V (own := "MazeBoard$Game") (y := yX1_setUp) (As := []) (rest := []) ⟨hx, hb, hml, hown, hB⟩ hK hE hC (c_X1_setUp l D cy ad L H.size (hL.sub (by decide) (by decide)) M3  v16) rfl (hL 1 (by decide) (by decide)) rfl mw_1_109 mw_1_111 mw_0_0 mw_1_2 mw_1_112 rfl yd_X1_setUp ⟨rfl, rfl⟩ ⟨Nat.le_of_ble_eq_true rfl, Nat.le_of_ble_eq_true rfl⟩ rfl hl.1 rfl (Nat.le_of_ble_eq_true rfl) dX1_clear_16 ⟨Nat.le_refl _, Nat.le_refl _⟩) hC (fun M4 H locs eM4 hC => ?_)
  have hT : sp_X1_clear M = sp_X1_clear_n1 M4 := by rw [eM4]; exact hT
  exact q_retv hx hb hr hlocks hC hT.symm dX1_clear_19
set_option maxHeartbeats 4000000 in
set_option maxRecDepth 100000 in
theorem c_X1_begin (l : Launch) (D : va_G) (cy ad : Nat → Nat) (L : List Nat) (sz : Nat) (hL : lr 1 9 L) (M : Mem)  (hV : vc_X1_begin M ) : Met l yX1_begin (Cond.code yX1_begin cX1_begin 1 (none) :: BG) ({ frames := 3, cells := 0, slots := 0, locals := 64 }) (va_Pc [.ref (ad 1)] (PW D cy ad L M sz)) (va_Qv (fun N => N = sp_X1_begin M) (OW D cy ad L sz) (fA ad L sz)) 0 0 (fA ad L sz) := by
  refine q_start (by decide) (Nat.le_of_ble_eq_true rfl) (fun p e s m below meth c H locs ls hsz hx hb hr hlocks hml hown hB hK hE hC hl => ?_)
  subst hsz
  have hown : s.vm.findClass "MazeBoard$Game" = some m.cls := hown
  have hl : lv_has ls 1 [(0, .ref (ad 1))] := hl
  have hT : sp_X1_begin M = sp_X1_begin_n4 (wI M 1 3 1) := rfl
  have hV : vc_X1_begin_n4 (wI M 1 3 1) := hV
  refine lv_aload_n hx hb dX1_begin_0 rfl (lv_at hl 0 rfl) ?_
  refine lv_iconst (v := 1) hx hb dX1_begin_1 (by decide) ?_
  refine q_puti (T := TX1) hx hb hB uw_X1 tyX1 tyX1_ok nmX1 hown hK hC rfl (hL 1 (by decide) (by decide)) rfl 3 (by decide) rfl (hB _ mw_1_132) rfl rfl (by decide) (by decide) dX1_begin_2 (fun H locs hC => ?_)
  obtain ⟨M1, eM1⟩ : ∃ z : Mem, z = wI M 1 3 1 := ⟨_, rfl⟩
  rw [← eM1] at hC
  have hT : sp_X1_begin M = sp_X1_begin_n4 M1 := by rw [eM1]; exact hT
  have hV : vc_X1_begin_n4 M1 := by rw [eM1]; exact hV
  refine lv_aload_n hx hb dX1_begin_5 rfl (lv_at hl 0 rfl) ?_
  refine lv_iconst (v := 3) hx hb dX1_begin_6 (by decide) ?_
  refine q_puti (T := TX1) hx hb hB uw_X1 tyX1 tyX1_ok nmX1 hown hK hC rfl (hL 1 (by decide) (by decide)) rfl 6 (by decide) rfl (hB _ mw_1_139) rfl rfl rfl rfl dX1_begin_7 (fun H locs hC => ?_)
  obtain ⟨M2, eM2⟩ : ∃ z : Mem, z = wI M1 1 6 3 := ⟨_, rfl⟩
  rw [← eM2] at hC
  have hT : sp_X1_begin M = sp_X1_begin_n3 M2 := by rw [eM2]; exact hT
  have hV : vc_X1_begin_n3 M2 := by rw [eM2]; exact hV
  refine lv_aload_n hx hb dX1_begin_10 rfl (lv_at hl 0 rfl) ?_
  refine lv_iconst (v := 1) hx hb dX1_begin_11 (by decide) ?_
  refine q_puti (T := TX1) hx hb hB uw_X1 tyX1 tyX1_ok nmX1 hown hK hC rfl (hL 1 (by decide) (by decide)) rfl 7 (by decide) rfl (hB _ mw_1_141) rfl rfl rfl rfl dX1_begin_12 (fun H locs hC => ?_)
  obtain ⟨M3, eM3⟩ : ∃ z : Mem, z = wI M2 1 7 1 := ⟨_, rfl⟩
  rw [← eM3] at hC
  have hT : sp_X1_begin M = sp_X1_begin_n2 M3 := by rw [eM3]; exact hT
  have hV : vc_X1_begin_n2 M3 := by rw [eM3]; exact hV
  refine lv_aload_n hx hb dX1_begin_15 rfl (lv_at hl 0 rfl) ?_
  have v16 : vc_X1_setUp M3 := hV
  refine q_Cv (q_V (own := "MazeBoard$Game") (y := yX1_setUp) (As := []) (rest := []) ⟨hx, hb, hml, hown, hB⟩ hK hE hC (c_X1_setUp l D cy ad L H.size (hL.sub (by decide) (by decide)) M3  v16) rfl (hL 1 (by decide) (by decide)) rfl mw_1_109 mw_1_111 mw_0_0 mw_1_2 mw_1_112 rfl yd_X1_setUp ⟨rfl, rfl⟩ ⟨Nat.le_of_ble_eq_true rfl, Nat.le_of_ble_eq_true rfl⟩ rfl hl.1 rfl (Nat.le_of_ble_eq_true rfl) dX1_begin_16 ⟨Nat.le_refl _, Nat.le_refl _⟩) hC (fun M4 H locs eM4 hC => ?_)
  have hT : sp_X1_begin M = sp_X1_begin_n1 M4 := by rw [eM4]; exact hT
  exact q_retv hx hb hr hlocks hC hT.symm dX1_begin_19
set_option maxHeartbeats 4000000 in
set_option maxRecDepth 100000 in
theorem c_J9_max_7cf53 (l : Launch) (D : va_G) (cy ad : Nat → Nat) (L : List Nat) (sz : Nat) (M : Mem) (a1 : Int32) (a2 : Int32) : Met l yJ9_max_7cf53 (Cond.code yJ9_max_7cf53 cJ9_max_7cf53 2 (some .int) :: BG) ({ frames := 0, cells := 0, slots := 0, locals := 0 }) (va_Pc [.int a1, .int a2] (PW D cy ad L M sz)) (va_Qi (fun r N => r = sp_J9_max_7cf53 a1 a2 ∧ N = M) (OW D cy ad L sz) (fA ad L sz)) 0 0 (fA ad L sz) := by
  refine q_startF (by decide +kernel) (Nat.le_of_ble_eq_true rfl) (fun p e s m below meth c H locs ls hsz hx hb hr hlocks hml hown hB hK hE hC hl => ?_)
  subst hsz
  have hown : s.vm.findClass "java/lang/Math" = some m.cls := hown
  have hl : lv_has ls 2 [(0, .int a1), (1, .int a2)] := hl
  have J10 : ∀ (x1 : Int32) (H : Heap) (locs : List Loc) (ls : Array Slot) (hT : sp_J9_max_7cf53 a1 a2 = sp_J9_max_7cf53_B10 x1) (hC : Cx D cy ad R0 L (fA ad L s.heap.size) s M H locs) (hl : lv_has ls 2 []), W p l e ({ frames := 0, cells := 0, slots := 0, locals := 0 }) s m ([.int a1, .int a2] : List Value).toArray below meth c H locs 0 0 (MQ below (va_Qi (fun r N => r = sp_J9_max_7cf53 a1 a2 ∧ N = M) (OW D cy ad L s.heap.size) (fA ad L s.heap.size)) ([.int a1, .int a2] : List Value).toArray s 0 0 (fA ad L s.heap.size)) (F0 m 10 ls [.int x1]) := by
    intro x1 H locs ls  hT hC hl
    have hT : sp_J9_max_7cf53 a1 a2 = x1 := hT
    exact q_reti hx hb hr hlocks hC ⟨hT.symm, rfl⟩ dJ9_max_7cf53_10
  have hT : sp_J9_max_7cf53 a1 a2 = if a1 < a2 then (sp_J9_max_7cf53_B10 a2) else (sp_J9_max_7cf53_B10 a1) := rfl
  refine lv_iload_n hx hb dJ9_max_7cf53_0 rfl (lv_at hl 0 rfl) ?_
  refine lv_iload_n hx hb dJ9_max_7cf53_1 rfl (lv_at hl 1 rfl) ?_
  refine lv_icmp_lt (tgt := 9) hx hb dJ9_max_7cf53_2 (by decide) (fun c2 => ?_) (fun c2 => ?_)
  · have hT : sp_J9_max_7cf53 a1 a2 = sp_J9_max_7cf53_B10 a2 := hT.trans (if_pos c2)
    refine lv_iload_n hx hb dJ9_max_7cf53_9 rfl (lv_at hl 1 rfl) ?_
    exact J10 a2 _ _ _  hT hC (lv_sub hl [] rfl)
  · have hT : sp_J9_max_7cf53 a1 a2 = sp_J9_max_7cf53_B10 a1 := hT.trans (if_neg c2)
    refine lv_iload_n hx hb dJ9_max_7cf53_5 rfl (lv_at hl 0 rfl) ?_
    refine lv_goto (tgt := 10) hx hb dJ9_max_7cf53_6 (by decide) ?_
    exact J10 a1 _ _ _  hT hC (lv_sub hl [] rfl)
set_option maxHeartbeats 4000000 in
set_option maxRecDepth 100000 in
theorem c_X1_addPoints (l : Launch) (D : va_G) (cy ad : Nat → Nat) (L : List Nat) (sz : Nat) (hL : lr 1 9 L) (M : Mem) (a1 : Int32) : Met l yX1_addPoints (Cond.code yX1_addPoints cX1_addPoints 2 (none) :: BG) ({ frames := 1, cells := 0, slots := 0, locals := 21 }) (va_Pc [.ref (ad 1), .int a1] (PW D cy ad L M sz)) (va_Qv (fun N => N = sp_X1_addPoints M a1) (OW D cy ad L sz) (fA ad L sz)) 0 0 (fA ad L sz) := by
  refine q_start (by decide) (Nat.le_of_ble_eq_true rfl) (fun p e s m below meth c H locs ls hsz hx hb hr hlocks hml hown hB hK hE hC hl => ?_)
  subst hsz
  have hown : s.vm.findClass "MazeBoard$Game" = some m.cls := hown
  have hl : lv_has ls 2 [(0, .ref (ad 1)), (1, .int a1)] := hl
  have J57 : ∀ (M5 : Mem) (H : Heap) (locs : List Loc) (ls : Array Slot) (hT : sp_X1_addPoints M a1 = sp_X1_addPoints_B57 M5) (hC : Cx D cy ad R0 L (fA ad L s.heap.size) s M5 H locs) (hl : lv_has ls 2 []), W p l e ({ frames := 1, cells := 0, slots := 0, locals := 21 }) s m ([.ref (ad 1), .int a1] : List Value).toArray below meth c H locs 0 0 (MQ below (va_Qv (fun N => N = sp_X1_addPoints M a1) (OW D cy ad L s.heap.size) (fA ad L s.heap.size)) ([.ref (ad 1), .int a1] : List Value).toArray s 0 0 (fA ad L s.heap.size)) (F0 m 57 ls []) := by
    intro M5 H locs ls  hT hC hl
    have hT : sp_X1_addPoints M a1 = M5 := hT
    exact q_retv hx hb hr hlocks hC hT.symm dX1_addPoints_57
  have hT : sp_X1_addPoints M a1 = sp_X1_addPoints_n4 (wI M 1 4 ((gI M 1 4) + a1)) := rfl
  refine lv_aload_n hx hb dX1_addPoints_0 rfl (lv_at hl 0 rfl) ?_
  refine lv_dup hx hb dX1_addPoints_1 rfl ?_
  refine q_geti (T := TX1) hx hb hB uw_X1 hown hK hC rfl (hL 1 (by decide) (by decide)) rfl 4 (by decide) rfl (hB _ mw_1_135) dX1_addPoints_2 ?_
  refine lv_iload_n hx hb dX1_addPoints_5 rfl (lv_at hl 1 rfl) ?_
  refine lv_iadd hx hb dX1_addPoints_6 ?_
  refine q_puti (T := TX1) hx hb hB uw_X1 tyX1 tyX1_ok nmX1 hown hK hC rfl (hL 1 (by decide) (by decide)) rfl 4 (by decide) rfl (hB _ mw_1_135) rfl rfl rfl rfl dX1_addPoints_7 (fun H locs hC => ?_)
  obtain ⟨M1, eM1⟩ : ∃ z : Mem, z = wI M 1 4 ((gI M 1 4) + a1) := ⟨_, rfl⟩
  rw [← eM1] at hC
  have hT : sp_X1_addPoints M a1 = sp_X1_addPoints_n4 M1 := by rw [eM1]; exact hT
  refine lv_aload_n hx hb dX1_addPoints_10 rfl (lv_at hl 0 rfl) ?_
  refine lv_aload_n hx hb dX1_addPoints_11 rfl (lv_at hl 0 rfl) ?_
  refine q_geti (T := TX1) hx hb hB uw_X1 hown hK hC rfl (hL 1 (by decide) (by decide)) rfl 5 (by decide) rfl (hB _ mw_1_138) dX1_addPoints_12 ?_
  refine lv_aload_n hx hb dX1_addPoints_15 rfl (lv_at hl 0 rfl) ?_
  refine q_geti (T := TX1) hx hb hB uw_X1 hown hK hC rfl (hL 1 (by decide) (by decide)) rfl 4 (by decide) rfl (hB _ mw_1_135) dX1_addPoints_16 ?_
  refine q_Ci (q_S (own := "MazeBoard$Game") (y := yJ9_max_7cf53) (As := [.int (gI M1 1 5), .int (gI M1 1 4)]) (rest := [.ref (ad 1)]) ⟨hx, hb, hml, hown, hB⟩ hK hE hC (c_J9_max_7cf53 l D cy ad L H.size M1 (gI M1 1 5) (gI M1 1 4)) mw_2_79 mw_2_80 mw_1_8 mw_2_81 yd_J9_max_7cf53 ⟨rfl, rfl⟩ ⟨Nat.le_of_ble_eq_true rfl, Nat.le_of_ble_eq_true rfl⟩ rfl hl.1 rfl (Nat.le_of_ble_eq_true rfl) dX1_addPoints_19 ⟨Nat.le_refl _, Nat.le_refl _⟩) hC (fun r N_ H locs hp hC => ?_)
  obtain ⟨hr_, hM_⟩ := hp
  subst hr_
  rw [hM_] at hC
  refine q_puti (T := TX1) hx hb hB uw_X1 tyX1 tyX1_ok nmX1 hown hK hC rfl (hL 1 (by decide) (by decide)) rfl 5 (by decide) rfl (hB _ mw_1_138) rfl rfl rfl rfl dX1_addPoints_22 (fun H locs hC => ?_)
  obtain ⟨M2, eM2⟩ : ∃ z : Mem, z = wI M1 1 5 (sp_J9_max_7cf53 (gI M1 1 5) (gI M1 1 4)) := ⟨_, rfl⟩
  rw [← eM2] at hC
  have hT : sp_X1_addPoints M a1 = sp_X1_addPoints_n3 M2 := by rw [eM2]; exact hT
  refine lv_aload_n hx hb dX1_addPoints_25 rfl (lv_at hl 0 rfl) ?_
  refine q_geti (T := TX1) hx hb hB uw_X1 hown hK hC rfl (hL 1 (by decide) (by decide)) rfl 4 (by decide) rfl (hB _ mw_1_135) dX1_addPoints_26 ?_
  refine lv_sipush (v := 3000) hx hb dX1_addPoints_29 (by decide) ?_
  refine lv_icmp_lt (tgt := 57) hx hb dX1_addPoints_32 (by decide) (fun c32 => ?_) (fun c32 => ?_)
  · have hT : sp_X1_addPoints M a1 = sp_X1_addPoints_B57 M2 := hT.trans (if_pos c32)
    exact J57 M2 _ _ _  hT hC (lv_sub hl [] rfl)
  · have hT : sp_X1_addPoints M a1 = if (gI M2 1 9) = 0 then (sp_X1_addPoints_n2 (wI M2 1 9 1)) else (sp_X1_addPoints_B57 M2) := hT.trans (if_neg c32)
    refine lv_aload_n hx hb dX1_addPoints_35 rfl (lv_at hl 0 rfl) ?_
    refine q_geti (T := TX1) hx hb hB uw_X1 hown hK hC rfl (hL 1 (by decide) (by decide)) rfl 9 (by decide) rfl (hB _ mw_1_145) dX1_addPoints_36 ?_
    refine lv_if_ne (tgt := 57) hx hb dX1_addPoints_39 (by decide) (fun c39 => ?_) (fun c39 => ?_)
    · have hT : sp_X1_addPoints M a1 = sp_X1_addPoints_B57 M2 := hT.trans (if_neg c39)
      exact J57 M2 _ _ _  hT hC (lv_sub hl [] rfl)
    · have hT : sp_X1_addPoints M a1 = sp_X1_addPoints_n2 (wI M2 1 9 1) := hT.trans (if_pos c39)
      refine lv_aload_n hx hb dX1_addPoints_42 rfl (lv_at hl 0 rfl) ?_
      refine lv_iconst (v := 1) hx hb dX1_addPoints_43 (by decide) ?_
      refine q_puti (T := TX1) hx hb hB uw_X1 tyX1 tyX1_ok nmX1 hown hK hC rfl (hL 1 (by decide) (by decide)) rfl 9 (by decide) rfl (hB _ mw_1_145) rfl rfl (by decide) (by decide) dX1_addPoints_44 (fun H locs hC => ?_)
      obtain ⟨M3, eM3⟩ : ∃ z : Mem, z = wI M2 1 9 1 := ⟨_, rfl⟩
      rw [← eM3] at hC
      have hT : sp_X1_addPoints M a1 = sp_X1_addPoints_n2 M3 := by rw [eM3]; exact hT
      refine lv_aload_n hx hb dX1_addPoints_47 rfl (lv_at hl 0 rfl) ?_
      refine lv_dup hx hb dX1_addPoints_48 rfl ?_
      refine q_geti (T := TX1) hx hb hB uw_X1 hown hK hC rfl (hL 1 (by decide) (by decide)) rfl 6 (by decide) rfl (hB _ mw_1_139) dX1_addPoints_49 ?_
      refine lv_iconst (v := 1) hx hb dX1_addPoints_52 (by decide) ?_
      refine lv_iadd hx hb dX1_addPoints_53 ?_
      refine q_puti (T := TX1) hx hb hB uw_X1 tyX1 tyX1_ok nmX1 hown hK hC rfl (hL 1 (by decide) (by decide)) rfl 6 (by decide) rfl (hB _ mw_1_139) rfl rfl rfl rfl dX1_addPoints_54 (fun H locs hC => ?_)
      obtain ⟨M4, eM4⟩ : ∃ z : Mem, z = wI M3 1 6 ((gI M3 1 6) + 1) := ⟨_, rfl⟩
      rw [← eM4] at hC
      have hT : sp_X1_addPoints M a1 = sp_X1_addPoints_n1 M4 := by rw [eM4]; exact hT
      exact J57 M4 _ _ _  hT hC (lv_sub hl [] rfl)
set_option maxHeartbeats 4000000 in
set_option maxRecDepth 100000 in
theorem c_X2_whatIs (l : Launch) (D : va_G) (cy ad : Nat → Nat) (L : List Nat) (sz : Nat) (hL : lr 1 9 L) (M : Mem) (a1 : Int32) (a2 : Int32) (hV : vc_X2_whatIs M a1 a2) : Met l yX2_whatIs (Cond.code yX2_whatIs cX2_whatIs 3 (some .int) :: BG) ({ frames := 0, cells := 0, slots := 0, locals := 0 }) (va_Pc [.ref (ad 2), .int a1, .int a2] (PW D cy ad L M sz)) (va_Qi (fun r N => r = sp_X2_whatIs M a1 a2 ∧ N = M) (OW D cy ad L sz) (fA ad L sz)) 0 0 (fA ad L sz) := by
  refine q_start (by decide) (Nat.le_of_ble_eq_true rfl) (fun p e s m below meth c H locs ls hsz hx hb hr hlocks hml hown hB hK hE hC hl => ?_)
  subst hsz
  have hown : s.vm.findClass "MazeBoard$Maze" = some m.cls := hown
  have hl : lv_has ls 3 [(0, .ref (ad 2)), (1, .int a1), (2, .int a2)] := hl
  have J20 : ∀  (H : Heap) (locs : List Loc) (ls : Array Slot) (hT : sp_X2_whatIs M a1 a2 = sp_X2_whatIs_B20 ) (hC : Cx D cy ad R0 L (fA ad L s.heap.size) s M H locs) (hl : lv_has ls 3 []), W p l e ({ frames := 0, cells := 0, slots := 0, locals := 0 }) s m ([.ref (ad 2), .int a1, .int a2] : List Value).toArray below meth c H locs 0 0 (MQ below (va_Qi (fun r N => r = sp_X2_whatIs M a1 a2 ∧ N = M) (OW D cy ad L s.heap.size) (fA ad L s.heap.size)) ([.ref (ad 2), .int a1, .int a2] : List Value).toArray s 0 0 (fA ad L s.heap.size)) (F0 m 20 ls []) := by
    intro  H locs ls  hT hC hl
    have hT : sp_X2_whatIs M a1 a2 = (-1) := hT
    refine lv_iconst (v := (-1)) hx hb dX2_whatIs_20 (by decide) ?_
    exact q_reti hx hb hr hlocks hC ⟨hT.symm, rfl⟩ dX2_whatIs_21
  have hT : sp_X2_whatIs M a1 a2 = if a1 < 0 then sp_X2_whatIs_B20 else (if 13 ≤ a1 then sp_X2_whatIs_B20 else (if a2 < 0 then sp_X2_whatIs_B20 else (if a2 < 9 then (gI M 3 (((a2 * 13) + a1).toNatClampNeg)) else sp_X2_whatIs_B20))) := rfl
  have hV : if a1 < 0 then True else (if 13 ≤ a1 then True else (if a2 < 0 then True else (if a2 < 9 then (vp_in ((a2 * 13) + a1) 117) else True))) := hV
  refine lv_iload_n hx hb dX2_whatIs_0 rfl (lv_at hl 1 rfl) ?_
  refine lv_if_lt (tgt := 20) hx hb dX2_whatIs_1 (by decide) (fun c1 => ?_) (fun c1 => ?_)
  · have hT : sp_X2_whatIs M a1 a2 = sp_X2_whatIs_B20 := hT.trans (if_pos c1)
    exact J20  _ _ _  hT hC (lv_sub hl [] rfl)
  · have hT : sp_X2_whatIs M a1 a2 = if 13 ≤ a1 then sp_X2_whatIs_B20 else (if a2 < 0 then sp_X2_whatIs_B20 else (if a2 < 9 then (gI M 3 (((a2 * 13) + a1).toNatClampNeg)) else sp_X2_whatIs_B20)) := hT.trans (if_neg c1)
    have hV : if 13 ≤ a1 then True else (if a2 < 0 then True else (if a2 < 9 then (vp_in ((a2 * 13) + a1) 117) else True)) := iteF hV c1
    refine lv_iload_n hx hb dX2_whatIs_4 rfl (lv_at hl 1 rfl) ?_
    refine lv_bipush (v := 13) hx hb dX2_whatIs_5 (by decide) ?_
    refine lv_icmp_ge (tgt := 20) hx hb dX2_whatIs_7 (by decide) (fun c7 => ?_) (fun c7 => ?_)
    · have hT : sp_X2_whatIs M a1 a2 = sp_X2_whatIs_B20 := hT.trans (if_pos c7)
      exact J20  _ _ _  hT hC (lv_sub hl [] rfl)
    · have hT : sp_X2_whatIs M a1 a2 = if a2 < 0 then sp_X2_whatIs_B20 else (if a2 < 9 then (gI M 3 (((a2 * 13) + a1).toNatClampNeg)) else sp_X2_whatIs_B20) := hT.trans (if_neg c7)
      have hV : if a2 < 0 then True else (if a2 < 9 then (vp_in ((a2 * 13) + a1) 117) else True) := iteF hV c7
      refine lv_iload_n hx hb dX2_whatIs_10 rfl (lv_at hl 2 rfl) ?_
      refine lv_if_lt (tgt := 20) hx hb dX2_whatIs_11 (by decide) (fun c11 => ?_) (fun c11 => ?_)
      · have hT : sp_X2_whatIs M a1 a2 = sp_X2_whatIs_B20 := hT.trans (if_pos c11)
        exact J20  _ _ _  hT hC (lv_sub hl [] rfl)
      · have hT : sp_X2_whatIs M a1 a2 = if a2 < 9 then (gI M 3 (((a2 * 13) + a1).toNatClampNeg)) else sp_X2_whatIs_B20 := hT.trans (if_neg c11)
        have hV : if a2 < 9 then (vp_in ((a2 * 13) + a1) 117) else True := iteF hV c11
        refine lv_iload_n hx hb dX2_whatIs_14 rfl (lv_at hl 2 rfl) ?_
        refine lv_bipush (v := 9) hx hb dX2_whatIs_15 (by decide) ?_
        refine lv_icmp_lt (tgt := 22) hx hb dX2_whatIs_17 (by decide) (fun c17 => ?_) (fun c17 => ?_)
        · have hT : sp_X2_whatIs M a1 a2 = gI M 3 (((a2 * 13) + a1).toNatClampNeg) := hT.trans (if_pos c17)
          have hV : (vp_in ((a2 * 13) + a1) 117) := iteT hV c17
          refine lv_aload_n hx hb dX2_whatIs_22 rfl (lv_at hl 0 rfl) ?_
          refine q_getr (T := TX2) hx hb hB uw_X2 hown hK hC rfl (hL 2 (by decide) (by decide)) rfl 0 (by decide) rfl rfl (hB _ mw_1_30) dX2_whatIs_23 ?_
          refine lv_iload_n hx hb dX2_whatIs_26 rfl (lv_at hl 2 rfl) ?_
          refine lv_bipush (v := 13) hx hb dX2_whatIs_27 (by decide) ?_
          refine lv_imul hx hb dX2_whatIs_29 ?_
          refine lv_iload_n hx hb dX2_whatIs_30 rfl (lv_at hl 1 rfl) ?_
          refine lv_iadd hx hb dX2_whatIs_31 ?_
          have w32 : vp_in ((a2 * 13) + a1) 117 := hV
          refine q_bald hx hb hK hC rfl (hL 3 (by decide) (by decide)) rfl w32 rfl dX2_whatIs_32 ?_
          exact q_reti hx hb hr hlocks hC ⟨hT.symm, rfl⟩ dX2_whatIs_33
        · have hT : sp_X2_whatIs M a1 a2 = sp_X2_whatIs_B20 := hT.trans (if_neg c17)
          exact J20  _ _ _  hT hC (lv_sub hl [] rfl)
set_option maxHeartbeats 4000000 in
set_option maxRecDepth 100000 in
theorem c_X2_isOpen (l : Launch) (D : va_G) (cy ad : Nat → Nat) (L : List Nat) (sz : Nat) (hL : lr 1 9 L) (M : Mem) (b1 : Nat) (hb1 : isA b1) (a2 : Int32) (hV : vc_X2_isOpen M b1 a2) : Met l yX2_isOpen (Cond.code yX2_isOpen cX2_isOpen 4 (some .boolean) :: BG) ({ frames := 1, cells := 0, slots := 0, locals := 22 }) (va_Pc [.ref (ad 2), .ref (ad b1), .int a2] (PW D cy ad L M sz)) (va_Qi (fun r N => r = sp_X2_isOpen M b1 a2 ∧ N = M) (OW D cy ad L sz) (fA ad L sz)) 0 0 (fA ad L sz) := by
  refine q_start (by decide) (Nat.le_of_ble_eq_true rfl) (fun p e s m below meth c H locs ls hsz hx hb hr hlocks hml hown hB hK hE hC hl => ?_)
  subst hsz
  have hown : s.vm.findClass "MazeBoard$Maze" = some m.cls := hown
  have hl : lv_has ls 4 [(0, .ref (ad 2)), (1, .ref (ad b1)), (2, .int a2)] := hl
  have J48 : ∀ (x2 : Int32) (H : Heap) (locs : List Loc) (ls : Array Slot) (hT : sp_X2_isOpen M b1 a2 = sp_X2_isOpen_B48 x2) (hV : vc_X2_isOpen_B48 x2) (hC : Cx D cy ad R0 L (fA ad L s.heap.size) s M H locs) (hl : lv_has ls 4 []), W p l e ({ frames := 1, cells := 0, slots := 0, locals := 22 }) s m ([.ref (ad 2), .ref (ad b1), .int a2] : List Value).toArray below meth c H locs 0 0 (MQ below (va_Qi (fun r N => r = sp_X2_isOpen M b1 a2 ∧ N = M) (OW D cy ad L s.heap.size) (fA ad L s.heap.size)) ([.ref (ad 2), .ref (ad b1), .int a2] : List Value).toArray s 0 0 (fA ad L s.heap.size)) (F0 m 48 ls [.int x2]) := by
    intro x2 H locs ls  hT hV hC hl
    have hT : sp_X2_isOpen M b1 a2 = x2 := hT
    have hV : (x2 = 0 ∨ x2 = 1) := hV
    have w48 : x2 = 0 ∨ x2 = 1 := hV
    exact q_retz hx hb hr hlocks hC w48 ⟨hT.symm, rfl⟩ dX2_isOpen_48
  have J47 : ∀  (H : Heap) (locs : List Loc) (ls : Array Slot) (hT : sp_X2_isOpen M b1 a2 = sp_X2_isOpen_B47 ) (hV : vc_X2_isOpen_B47 ) (hC : Cx D cy ad R0 L (fA ad L s.heap.size) s M H locs) (hl : lv_has ls 4 []), W p l e ({ frames := 1, cells := 0, slots := 0, locals := 22 }) s m ([.ref (ad 2), .ref (ad b1), .int a2] : List Value).toArray below meth c H locs 0 0 (MQ below (va_Qi (fun r N => r = sp_X2_isOpen M b1 a2 ∧ N = M) (OW D cy ad L s.heap.size) (fA ad L s.heap.size)) ([.ref (ad 2), .ref (ad b1), .int a2] : List Value).toArray s 0 0 (fA ad L s.heap.size)) (F0 m 47 ls []) := by
    intro  H locs ls  hT hV hC hl
    have hT : sp_X2_isOpen M b1 a2 = sp_X2_isOpen_B48 0 := hT
    have hV : vc_X2_isOpen_B48 0 := hV
    refine lv_iconst (v := 0) hx hb dX2_isOpen_47 (by decide) ?_
    exact J48 0 _ _ _  hT hV hC (lv_sub hl [] rfl)
  have J43 : ∀  (H : Heap) (locs : List Loc) (ls : Array Slot) (hT : sp_X2_isOpen M b1 a2 = sp_X2_isOpen_B43 ) (hV : vc_X2_isOpen_B43 ) (hC : Cx D cy ad R0 L (fA ad L s.heap.size) s M H locs) (hl : lv_has ls 4 []), W p l e ({ frames := 1, cells := 0, slots := 0, locals := 22 }) s m ([.ref (ad 2), .ref (ad b1), .int a2] : List Value).toArray below meth c H locs 0 0 (MQ below (va_Qi (fun r N => r = sp_X2_isOpen M b1 a2 ∧ N = M) (OW D cy ad L s.heap.size) (fA ad L s.heap.size)) ([.ref (ad 2), .ref (ad b1), .int a2] : List Value).toArray s 0 0 (fA ad L s.heap.size)) (F0 m 43 ls []) := by
    intro  H locs ls  hT hV hC hl
    have hT : sp_X2_isOpen M b1 a2 = sp_X2_isOpen_B48 1 := hT
    have hV : vc_X2_isOpen_B48 1 := hV
    refine lv_iconst (v := 1) hx hb dX2_isOpen_43 (by decide) ?_
    refine lv_goto (tgt := 48) hx hb dX2_isOpen_44 (by decide) ?_
    exact J48 1 _ _ _  hT hV hC (lv_sub hl [] rfl)
  have hT : sp_X2_isOpen M b1 a2 = sp_X2_isOpen_n1 M b1 (sp_X2_whatIs M (sp_X6_nextColumn (gI M b1 0) a2) (sp_X6_nextRow (gI M b1 1) a2)) := rfl
  have hV : (vc_X2_whatIs M (sp_X6_nextColumn (gI M b1 0) a2) (sp_X6_nextRow (gI M b1 1) a2)) ∧ (vc_X2_isOpen_n1 M b1 (sp_X2_whatIs M (sp_X6_nextColumn (gI M b1 0) a2) (sp_X6_nextRow (gI M b1 1) a2))) := hV
  refine lv_aload_n hx hb dX2_isOpen_0 rfl (lv_at hl 0 rfl) ?_
  refine lv_aload_n hx hb dX2_isOpen_1 rfl (lv_at hl 1 rfl) ?_
  refine q_geti (T := TX0) hx hb hB uw_X0 hown hK hC (isA.sh hb1) (hL _ (Nat.le_trans (by decide) (hb1).1) (Nat.le_trans (hb1).2 (by decide))) rfl 0 (by decide) rfl (hB _ mw_1_48) dX2_isOpen_2 ?_
  refine lv_iload_n hx hb dX2_isOpen_5 rfl (lv_at hl 2 rfl) ?_
  refine q_Ci (q_N (own := "MazeBoard$Maze") (y := yX6_nextColumn) (As := [.int (gI M b1 0), .int a2]) (rest := [.ref (ad 2)]) ⟨hx, hb, hml, hown, hB⟩ hK hE hC (c_X6_nextColumn l D cy ad L H.size M (gI M b1 0) a2) (nw_X2_27 hE.2) mw_2_47 mw_1_1 mw_2_48 yd_X6_nextColumn ⟨rfl, rfl⟩ ⟨Nat.le_of_ble_eq_true rfl, Nat.le_of_ble_eq_true rfl⟩ rfl hl.1 rfl (Nat.le_of_ble_eq_true rfl) dX2_isOpen_6 ⟨Nat.le_refl _, Nat.le_refl _⟩) hC (fun r N_ H locs hp hC => ?_)
  obtain ⟨hr_, hM_⟩ := hp
  subst hr_
  rw [hM_] at hC
  refine lv_aload_n hx hb dX2_isOpen_9 rfl (lv_at hl 1 rfl) ?_
  refine q_geti (T := TX0) hx hb hB uw_X0 hown hK hC (isA.sh hb1) (hL _ (Nat.le_trans (by decide) (hb1).1) (Nat.le_trans (hb1).2 (by decide))) rfl 1 (by decide) rfl (hB _ mw_1_53) dX2_isOpen_10 ?_
  refine lv_iload_n hx hb dX2_isOpen_13 rfl (lv_at hl 2 rfl) ?_
  refine q_Ci (q_N (own := "MazeBoard$Maze") (y := yX6_nextRow) (As := [.int (gI M b1 1), .int a2]) (rest := [.int (sp_X6_nextColumn (gI M b1 0) a2), .ref (ad 2)]) ⟨hx, hb, hml, hown, hB⟩ hK hE hC (c_X6_nextRow l D cy ad L H.size M (gI M b1 1) a2) (nw_X2_34 hE.2) mw_2_50 mw_1_1 mw_2_51 yd_X6_nextRow ⟨rfl, rfl⟩ ⟨Nat.le_of_ble_eq_true rfl, Nat.le_of_ble_eq_true rfl⟩ rfl hl.1 rfl (Nat.le_of_ble_eq_true rfl) dX2_isOpen_14 ⟨Nat.le_refl _, Nat.le_refl _⟩) hC (fun r N_ H locs hp hC => ?_)
  obtain ⟨hr_, hM_⟩ := hp
  subst hr_
  rw [hM_] at hC
  obtain ⟨v17, hV⟩ : (vc_X2_whatIs M (sp_X6_nextColumn (gI M b1 0) a2) (sp_X6_nextRow (gI M b1 1) a2)) ∧ (vc_X2_isOpen_n1 M b1 (sp_X2_whatIs M (sp_X6_nextColumn (gI M b1 0) a2) (sp_X6_nextRow (gI M b1 1) a2))) := hV
  refine q_Ci (q_V (own := "MazeBoard$Maze") (y := yX2_whatIs) (As := [.int (sp_X6_nextColumn (gI M b1 0) a2), .int (sp_X6_nextRow (gI M b1 1) a2)]) (rest := []) ⟨hx, hb, hml, hown, hB⟩ hK hE hC (c_X2_whatIs l D cy ad L H.size (hL.sub (by decide) (by decide)) M (sp_X6_nextColumn (gI M b1 0) a2) (sp_X6_nextRow (gI M b1 1) a2) v17) rfl (hL 2 (by decide) (by decide)) rfl mw_2_52 mw_2_53 mw_2_54 mw_1_3 mw_2_55 rfl yd_X2_whatIs ⟨rfl, rfl⟩ ⟨Nat.le_of_ble_eq_true rfl, Nat.le_of_ble_eq_true rfl⟩ rfl hl.1 rfl (Nat.le_of_ble_eq_true rfl) dX2_isOpen_17 ⟨Nat.le_refl _, Nat.le_refl _⟩) hC (fun r N_ H locs hp hC => ?_)
  obtain ⟨hr_, hM_⟩ := hp
  subst hr_
  rw [hM_] at hC
  refine lv_topi (fun x1 ex1 => ?_)
  have hT : sp_X2_isOpen M b1 a2 = sp_X2_isOpen_n1 M b1 x1 := by rw [ex1]; exact hT
  have hV : vc_X2_isOpen_n1 M b1 x1 := by rw [ex1]; exact hV
  refine lv_istore_n (lv' := [(3, .int x1), (0, .ref (ad 2)), (1, .ref (ad b1)), (2, .int a2)]) hx hb dX2_isOpen_20 rfl hl (by decide) rfl (fun ls hl => ?_)
  refine lv_iload_n hx hb dX2_isOpen_21 rfl (lv_at hl 0 rfl) ?_
  refine lv_iconst (v := 1) hx hb dX2_isOpen_22 (by decide) ?_
  refine lv_icmp_eq (tgt := 47) hx hb dX2_isOpen_23 (by decide) (fun c23 => ?_) (fun c23 => ?_)
  · have hT : sp_X2_isOpen M b1 a2 = sp_X2_isOpen_B47 := hT.trans (if_pos c23)
    have hV : vc_X2_isOpen_B47 := iteT hV c23
    exact J47  _ _ _  hT hV hC (lv_sub hl [] rfl)
  · have hT : sp_X2_isOpen M b1 a2 = if x1 = (-1) then sp_X2_isOpen_B47 else (if x1 = 4 then (if (gI M b1 5) = 0 then sp_X2_isOpen_B47 else sp_X2_isOpen_B43) else sp_X2_isOpen_B43) := hT.trans (if_neg c23)
    have hV : if x1 = (-1) then vc_X2_isOpen_B47 else (if x1 = 4 then (if (gI M b1 5) = 0 then vc_X2_isOpen_B47 else vc_X2_isOpen_B43) else vc_X2_isOpen_B43) := iteF hV c23
    refine lv_iload_n hx hb dX2_isOpen_26 rfl (lv_at hl 0 rfl) ?_
    refine lv_iconst (v := (-1)) hx hb dX2_isOpen_27 (by decide) ?_
    refine lv_icmp_eq (tgt := 47) hx hb dX2_isOpen_28 (by decide) (fun c28 => ?_) (fun c28 => ?_)
    · have hT : sp_X2_isOpen M b1 a2 = sp_X2_isOpen_B47 := hT.trans (if_pos c28)
      have hV : vc_X2_isOpen_B47 := iteT hV c28
      exact J47  _ _ _  hT hV hC (lv_sub hl [] rfl)
    · have hT : sp_X2_isOpen M b1 a2 = if x1 = 4 then (if (gI M b1 5) = 0 then sp_X2_isOpen_B47 else sp_X2_isOpen_B43) else sp_X2_isOpen_B43 := hT.trans (if_neg c28)
      have hV : if x1 = 4 then (if (gI M b1 5) = 0 then vc_X2_isOpen_B47 else vc_X2_isOpen_B43) else vc_X2_isOpen_B43 := iteF hV c28
      refine lv_iload_n hx hb dX2_isOpen_31 rfl (lv_at hl 0 rfl) ?_
      refine lv_iconst (v := 4) hx hb dX2_isOpen_32 (by decide) ?_
      refine lv_icmp_ne (tgt := 43) hx hb dX2_isOpen_33 (by decide) (fun c33 => ?_) (fun c33 => ?_)
      · have hT : sp_X2_isOpen M b1 a2 = sp_X2_isOpen_B43 := hT.trans (if_neg c33)
        have hV : vc_X2_isOpen_B43 := iteF hV c33
        exact J43  _ _ _  hT hV hC (lv_sub hl [] rfl)
      · have hT : sp_X2_isOpen M b1 a2 = if (gI M b1 5) = 0 then sp_X2_isOpen_B47 else sp_X2_isOpen_B43 := hT.trans (if_pos c33)
        have hV : if (gI M b1 5) = 0 then vc_X2_isOpen_B47 else vc_X2_isOpen_B43 := iteT hV c33
        refine lv_aload_n hx hb dX2_isOpen_36 rfl (lv_at hl 2 rfl) ?_
        refine q_geti (T := TX0) hx hb hB uw_X0 hown hK hC (isA.sh hb1) (hL _ (Nat.le_trans (by decide) (hb1).1) (Nat.le_trans (hb1).2 (by decide))) rfl 5 (by decide) rfl (hB _ mw_1_70) dX2_isOpen_37 ?_
        refine lv_if_eq (tgt := 47) hx hb dX2_isOpen_40 (by decide) (fun c40 => ?_) (fun c40 => ?_)
        · have hT : sp_X2_isOpen M b1 a2 = sp_X2_isOpen_B47 := hT.trans (if_pos c40)
          have hV : vc_X2_isOpen_B47 := iteT hV c40
          exact J47  _ _ _  hT hV hC (lv_sub hl [] rfl)
        · have hT : sp_X2_isOpen M b1 a2 = sp_X2_isOpen_B43 := hT.trans (if_neg c40)
          have hV : vc_X2_isOpen_B43 := iteF hV c40
          exact J43  _ _ _  hT hV hC (lv_sub hl [] rfl)
