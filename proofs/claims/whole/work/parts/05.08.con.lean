set_option maxHeartbeats 4000000 in
set_option maxRecDepth 100000 in
theorem c_X7_cornerColumn (l : Launch) (D : va_G) (cy ad : Nat → Nat) (L : List Nat) (sz : Nat) (M : Mem) (a1 : Int32) : Met l yX7_cornerColumn (Cond.code yX7_cornerColumn cX7_cornerColumn 1 (some .int) :: BG) ({ frames := 0, cells := 0, slots := 0, locals := 0 }) (va_Pc [.int a1] (PW D cy ad L M sz)) (va_Qi (fun r N => r = sp_X7_cornerColumn a1 ∧ N = M) (OW D cy ad L sz) (fA ad L sz)) 0 0 (fA ad L sz) := by
  refine q_start (by decide) (Nat.le_of_ble_eq_true rfl) (fun p e s m below meth c H locs ls hsz hx hb hr hlocks hml hown hB hK hE hC hl => ?_)
  subst hsz
  have hown : s.vm.findClass "MazeBoardModel" = some m.cls := hown
  have hl : lv_has ls 1 [(0, .int a1)] := hl
  have J13 : ∀ (x1 : Int32) (H : Heap) (locs : List Loc) (ls : Array Slot) (hT : sp_X7_cornerColumn a1 = sp_X7_cornerColumn_B13 x1) (hC : Cx D cy ad R0 L (fA ad L s.heap.size) s M H locs) (hl : lv_has ls 1 []), W p l e ({ frames := 0, cells := 0, slots := 0, locals := 0 }) s m ([.int a1] : List Value).toArray below meth c H locs 0 0 (MQ below (va_Qi (fun r N => r = sp_X7_cornerColumn a1 ∧ N = M) (OW D cy ad L s.heap.size) (fA ad L s.heap.size)) ([.int a1] : List Value).toArray s 0 0 (fA ad L s.heap.size)) (F0 m 13 ls [.int x1]) := by
    intro x1 H locs ls  hT hC hl
    have hT : sp_X7_cornerColumn a1 = x1 := hT
    exact q_reti hx hb hr hlocks hC ⟨hT.symm, rfl⟩ dX7_cornerColumn_13
  have hT : sp_X7_cornerColumn a1 = if (a1 - a1 / 2 * 2) = 1 then (sp_X7_cornerColumn_B13 11) else (sp_X7_cornerColumn_B13 1) := rfl
  refine lv_iload_n hx hb dX7_cornerColumn_0 rfl (lv_at hl 0 rfl) ?_
  refine lv_iconst (v := 2) hx hb dX7_cornerColumn_1 (by decide) ?_
  refine lv_irem hx hb dX7_cornerColumn_2 (by decide) ?_
  refine lv_iconst (v := 1) hx hb dX7_cornerColumn_3 (by decide) ?_
  refine lv_icmp_ne (tgt := 12) hx hb dX7_cornerColumn_4 (by decide) (fun c4 => ?_) (fun c4 => ?_)
  · have hT : sp_X7_cornerColumn a1 = sp_X7_cornerColumn_B13 1 := hT.trans (if_neg c4)
    refine lv_iconst (v := 1) hx hb dX7_cornerColumn_12 (by decide) ?_
    exact J13 1 _ _ _  hT hC (lv_sub hl [] rfl)
  · have hT : sp_X7_cornerColumn a1 = sp_X7_cornerColumn_B13 11 := hT.trans (if_pos c4)
    refine lv_bipush (v := 11) hx hb dX7_cornerColumn_7 (by decide) ?_
    refine lv_goto (tgt := 13) hx hb dX7_cornerColumn_9 (by decide) ?_
    exact J13 11 _ _ _  hT hC (lv_sub hl [] rfl)
set_option maxHeartbeats 4000000 in
set_option maxRecDepth 100000 in
theorem c_X7_cornerRow (l : Launch) (D : va_G) (cy ad : Nat → Nat) (L : List Nat) (sz : Nat) (M : Mem) (a1 : Int32) : Met l yX7_cornerRow (Cond.code yX7_cornerRow cX7_cornerRow 1 (some .int) :: BG) ({ frames := 0, cells := 0, slots := 0, locals := 0 }) (va_Pc [.int a1] (PW D cy ad L M sz)) (va_Qi (fun r N => r = sp_X7_cornerRow a1 ∧ N = M) (OW D cy ad L sz) (fA ad L sz)) 0 0 (fA ad L sz) := by
  refine q_start (by decide) (Nat.le_of_ble_eq_true rfl) (fun p e s m below meth c H locs ls hsz hx hb hr hlocks hml hown hB hK hE hC hl => ?_)
  subst hsz
  have hown : s.vm.findClass "MazeBoardModel" = some m.cls := hown
  have hl : lv_has ls 1 [(0, .int a1)] := hl
  have J11 : ∀ (x1 : Int32) (H : Heap) (locs : List Loc) (ls : Array Slot) (hT : sp_X7_cornerRow a1 = sp_X7_cornerRow_B11 x1) (hC : Cx D cy ad R0 L (fA ad L s.heap.size) s M H locs) (hl : lv_has ls 1 []), W p l e ({ frames := 0, cells := 0, slots := 0, locals := 0 }) s m ([.int a1] : List Value).toArray below meth c H locs 0 0 (MQ below (va_Qi (fun r N => r = sp_X7_cornerRow a1 ∧ N = M) (OW D cy ad L s.heap.size) (fA ad L s.heap.size)) ([.int a1] : List Value).toArray s 0 0 (fA ad L s.heap.size)) (F0 m 11 ls [.int x1]) := by
    intro x1 H locs ls  hT hC hl
    have hT : sp_X7_cornerRow a1 = x1 := hT
    exact q_reti hx hb hr hlocks hC ⟨hT.symm, rfl⟩ dX7_cornerRow_11
  have hT : sp_X7_cornerRow a1 = if 3 ≤ a1 then (sp_X7_cornerRow_B11 7) else (sp_X7_cornerRow_B11 1) := rfl
  refine lv_iload_n hx hb dX7_cornerRow_0 rfl (lv_at hl 0 rfl) ?_
  refine lv_iconst (v := 3) hx hb dX7_cornerRow_1 (by decide) ?_
  refine lv_icmp_ge (tgt := 9) hx hb dX7_cornerRow_2 (by decide) (fun c2 => ?_) (fun c2 => ?_)
  · have hT : sp_X7_cornerRow a1 = sp_X7_cornerRow_B11 7 := hT.trans (if_pos c2)
    refine lv_bipush (v := 7) hx hb dX7_cornerRow_9 (by decide) ?_
    exact J11 7 _ _ _  hT hC (lv_sub hl [] rfl)
  · have hT : sp_X7_cornerRow a1 = sp_X7_cornerRow_B11 1 := hT.trans (if_neg c2)
    refine lv_iconst (v := 1) hx hb dX7_cornerRow_5 (by decide) ?_
    refine lv_goto (tgt := 11) hx hb dX7_cornerRow_6 (by decide) ?_
    exact J11 1 _ _ _  hT hC (lv_sub hl [] rfl)
set_option maxHeartbeats 4000000 in
set_option maxRecDepth 100000 in
theorem c_X7_distance (l : Launch) (D : va_G) (cy ad : Nat → Nat) (L : List Nat) (sz : Nat) (M : Mem) (a1 : Int32) (a2 : Int32) (a3 : Int32) (a4 : Int32) : Met l yX7_distance (Cond.code yX7_distance cX7_distance 4 (some .int) :: BG) ({ frames := 0, cells := 0, slots := 0, locals := 0 }) (va_Pc [.int a1, .int a2, .int a3, .int a4] (PW D cy ad L M sz)) (va_Qi (fun r N => r = sp_X7_distance a1 a2 a3 a4 ∧ N = M) (OW D cy ad L sz) (fA ad L sz)) 0 0 (fA ad L sz) := by
  refine q_start (by decide) (Nat.le_of_ble_eq_true rfl) (fun p e s m below meth c H locs ls hsz hx hb hr hlocks hml hown hB hK hE hC hl => ?_)
  subst hsz
  have hown : s.vm.findClass "MazeBoardModel" = some m.cls := hown
  have hl : lv_has ls 4 [(0, .int a1), (1, .int a2), (2, .int a3), (3, .int a4)] := hl
  have hT : sp_X7_distance a1 a2 a3 a4 = ((a1 - a3) * (a1 - a3)) + ((a2 - a4) * (a2 - a4)) := rfl
  refine lv_iload_n hx hb dX7_distance_0 rfl (lv_at hl 0 rfl) ?_
  refine lv_iload_n hx hb dX7_distance_1 rfl (lv_at hl 2 rfl) ?_
  refine lv_isub hx hb dX7_distance_2 ?_
  refine lv_iload_n hx hb dX7_distance_3 rfl (lv_at hl 0 rfl) ?_
  refine lv_iload_n hx hb dX7_distance_4 rfl (lv_at hl 2 rfl) ?_
  refine lv_isub hx hb dX7_distance_5 ?_
  refine lv_imul hx hb dX7_distance_6 ?_
  refine lv_iload_n hx hb dX7_distance_7 rfl (lv_at hl 1 rfl) ?_
  refine lv_iload_n hx hb dX7_distance_8 rfl (lv_at hl 3 rfl) ?_
  refine lv_isub hx hb dX7_distance_9 ?_
  refine lv_iload_n hx hb dX7_distance_10 rfl (lv_at hl 1 rfl) ?_
  refine lv_iload_n hx hb dX7_distance_11 rfl (lv_at hl 3 rfl) ?_
  refine lv_isub hx hb dX7_distance_12 ?_
  refine lv_imul hx hb dX7_distance_13 ?_
  refine lv_iadd hx hb dX7_distance_14 ?_
  exact q_reti hx hb hr hlocks hC ⟨hT.symm, rfl⟩ dX7_distance_15
set_option maxHeartbeats 4000000 in
set_option maxRecDepth 100000 in
theorem c_X7_aim (l : Launch) (D : va_G) (cy ad : Nat → Nat) (L : List Nat) (sz : Nat) (hL : lr 20 34 L) (M : Mem) (a1 : Int32) (a2 : Int32) (hV : vc_X7_aim M a1 a2) : Met l yX7_aim (Cond.code yX7_aim cX7_aim 6 (some .int) :: BG) ({ frames := 1, cells := 0, slots := 0, locals := 23 }) (va_Pc [.ref (ad 20), .int a1, .int a2] (PW D cy ad L M sz)) (va_Qi (fun r N => r = sp_X7_aim M a1 a2 ∧ N = M) (OW D cy ad L sz) (fA ad L sz)) 0 0 (fA ad L sz) := by
  refine q_start (by decide) (Nat.le_of_ble_eq_true rfl) (fun p e s m below meth c H locs ls hsz hx hb hr hlocks hml hown hB hK hE hC hl => ?_)
  subst hsz
  have hown : s.vm.findClass "MazeBoardModel" = some m.cls := hown
  have hl : lv_has ls 6 [(0, .ref (ad 20)), (1, .int a1), (2, .int a2)] := hl
  have J180 : ∀ (x6 : Int32) (H : Heap) (locs : List Loc) (ls : Array Slot) (hT : sp_X7_aim M a1 a2 = sp_X7_aim_B180 x6) (hC : Cx D cy ad R0 L (fA ad L s.heap.size) s M H locs) (hl : lv_has ls 6 []), W p l e ({ frames := 1, cells := 0, slots := 0, locals := 23 }) s m ([.ref (ad 20), .int a1, .int a2] : List Value).toArray below meth c H locs 0 0 (MQ below (va_Qi (fun r N => r = sp_X7_aim M a1 a2 ∧ N = M) (OW D cy ad L s.heap.size) (fA ad L s.heap.size)) ([.ref (ad 20), .int a1, .int a2] : List Value).toArray s 0 0 (fA ad L s.heap.size)) (F0 m 180 ls [.int x6]) := by
    intro x6 H locs ls  hT hC hl
    have hT : sp_X7_aim M a1 a2 = x6 := hT
    exact q_reti hx hb hr hlocks hC ⟨hT.symm, rfl⟩ dX7_aim_180
  have J174 : ∀ (x3 : Int32) (x4 : Int32) (x5 : Int32) (H : Heap) (locs : List Loc) (ls : Array Slot) (hT : sp_X7_aim M a1 a2 = sp_X7_aim_B174 x3 x4 x5) (hC : Cx D cy ad R0 L (fA ad L s.heap.size) s M H locs) (hl : lv_has ls 6 []), W p l e ({ frames := 1, cells := 0, slots := 0, locals := 23 }) s m ([.ref (ad 20), .int a1, .int a2] : List Value).toArray below meth c H locs 0 0 (MQ below (va_Qi (fun r N => r = sp_X7_aim M a1 a2 ∧ N = M) (OW D cy ad L s.heap.size) (fA ad L s.heap.size)) ([.ref (ad 20), .int a1, .int a2] : List Value).toArray s 0 0 (fA ad L s.heap.size)) (F0 m 174 ls [.int x5, .int (2 * (x3 + x4))]) := by
    intro x3 x4 x5 H locs ls  hT hC hl
    have hT : sp_X7_aim M a1 a2 = sp_X7_aim_B180 ((2 * (x3 + x4)) - x5) := hT
    refine lv_isub hx hb dX7_aim_174 ?_
    refine lv_goto (tgt := 180) hx hb dX7_aim_175 (by decide) ?_
    exact J180 ((2 * (x3 + x4)) - x5) _ _ _  hT hC (lv_sub hl [] rfl)
  have J128 : ∀ (x3 : Int32) (x4 : Int32) (H : Heap) (locs : List Loc) (ls : Array Slot) (hT : sp_X7_aim M a1 a2 = sp_X7_aim_B128 M a1 a2 x3 x4) (hC : Cx D cy ad R0 L (fA ad L s.heap.size) s M H locs) (hl : lv_has ls 6 [(0, .ref (ad 20)), (1, .int a1), (2, .int a2), (4, .int x3)]), W p l e ({ frames := 1, cells := 0, slots := 0, locals := 23 }) s m ([.ref (ad 20), .int a1, .int a2] : List Value).toArray below meth c H locs 0 0 (MQ below (va_Qi (fun r N => r = sp_X7_aim M a1 a2 ∧ N = M) (OW D cy ad L s.heap.size) (fA ad L s.heap.size)) ([.ref (ad 20), .int a1, .int a2] : List Value).toArray s 0 0 (fA ad L s.heap.size)) (F0 m 128 ls [.int x4]) := by
    intro x3 x4 H locs ls  hT hC hl
    have hT : sp_X7_aim M a1 a2 = if a1 = 2 then (x3 + (2 * x4)) else (if a1 = 3 then (if a2 = 0 then (sp_X7_aim_B174 x3 x4 (gI M 24 1)) else (sp_X7_aim_B174 x3 x4 (gI M 23 1))) else (sp_X7_aim_B180 x3)) := hT
    refine lv_istore (lv' := [(5, .int x4), (0, .ref (ad 20)), (1, .int a1), (2, .int a2), (4, .int x3)]) hx hb dX7_aim_128 hl (by decide) rfl (fun ls hl => ?_)
    refine lv_iload_n hx hb dX7_aim_130 rfl (lv_at hl 2 rfl) ?_
    refine lv_iconst (v := 2) hx hb dX7_aim_131 (by decide) ?_
    refine lv_icmp_ne (tgt := 143) hx hb dX7_aim_132 (by decide) (fun c132 => ?_) (fun c132 => ?_)
    · have hT : sp_X7_aim M a1 a2 = if a1 = 3 then (if a2 = 0 then (sp_X7_aim_B174 x3 x4 (gI M 24 1)) else (sp_X7_aim_B174 x3 x4 (gI M 23 1))) else (sp_X7_aim_B180 x3) := hT.trans (if_neg c132)
      refine lv_iload_n hx hb dX7_aim_143 rfl (lv_at hl 2 rfl) ?_
      refine lv_iconst (v := 3) hx hb dX7_aim_144 (by decide) ?_
      refine lv_icmp_ne (tgt := 178) hx hb dX7_aim_145 (by decide) (fun c145 => ?_) (fun c145 => ?_)
      · have hT : sp_X7_aim M a1 a2 = sp_X7_aim_B180 x3 := hT.trans (if_neg c145)
        refine lv_iload hx hb dX7_aim_178 (lv_at hl 4 rfl) ?_
        exact J180 x3 _ _ _  hT hC (lv_sub hl [] rfl)
      · have hT : sp_X7_aim M a1 a2 = if a2 = 0 then (sp_X7_aim_B174 x3 x4 (gI M 24 1)) else (sp_X7_aim_B174 x3 x4 (gI M 23 1)) := hT.trans (if_pos c145)
        refine lv_iconst (v := 2) hx hb dX7_aim_148 (by decide) ?_
        refine lv_iload hx hb dX7_aim_149 (lv_at hl 4 rfl) ?_
        refine lv_iload hx hb dX7_aim_151 (lv_at hl 0 rfl) ?_
        refine lv_iadd hx hb dX7_aim_153 ?_
        refine lv_imul hx hb dX7_aim_154 ?_
        refine lv_iload_n hx hb dX7_aim_155 rfl (lv_at hl 3 rfl) ?_
        refine lv_if_eq (tgt := 168) hx hb dX7_aim_156 (by decide) (fun c156 => ?_) (fun c156 => ?_)
        · have hT : sp_X7_aim M a1 a2 = sp_X7_aim_B174 x3 x4 (gI M 24 1) := hT.trans (if_pos c156)
          refine lv_aload_n hx hb dX7_aim_168 rfl (lv_at hl 1 rfl) ?_
          refine q_getr (T := TX7) hx hb hB uw_X7 hown hK hC rfl (hL 20 (by decide) (by decide)) rfl 17 (by decide) rfl rfl (hB _ mw_3_61) dX7_aim_169 ?_
          refine lv_iconst (v := 1) hx hb dX7_aim_172 (by decide) ?_
          refine q_iald (k := 1) hx hb hK hC rfl (hL 24 (by decide) (by decide)) rfl (by unfold vp_in; decide) (by decide) dX7_aim_173 ?_
          exact J174 x3 x4 (gI M 24 1) _ _ _  hT hC (lv_sub hl [] rfl)
        · have hT : sp_X7_aim M a1 a2 = sp_X7_aim_B174 x3 x4 (gI M 23 1) := hT.trans (if_neg c156)
          refine lv_aload_n hx hb dX7_aim_159 rfl (lv_at hl 1 rfl) ?_
          refine q_getr (T := TX7) hx hb hB uw_X7 hown hK hC rfl (hL 20 (by decide) (by decide)) rfl 16 (by decide) rfl rfl (hB _ mw_3_60) dX7_aim_160 ?_
          refine lv_iconst (v := 1) hx hb dX7_aim_163 (by decide) ?_
          refine q_iald (k := 1) hx hb hK hC rfl (hL 23 (by decide) (by decide)) rfl (by unfold vp_in; decide) (by decide) dX7_aim_164 ?_
          refine lv_goto (tgt := 174) hx hb dX7_aim_165 (by decide) ?_
          exact J174 x3 x4 (gI M 23 1) _ _ _  hT hC (lv_sub hl [] rfl)
    · have hT : sp_X7_aim M a1 a2 = x3 + (2 * x4) := hT.trans (if_pos c132)
      refine lv_iload hx hb dX7_aim_135 (lv_at hl 4 rfl) ?_
      refine lv_iconst (v := 2) hx hb dX7_aim_137 (by decide) ?_
      refine lv_iload hx hb dX7_aim_138 (lv_at hl 0 rfl) ?_
      refine lv_imul hx hb dX7_aim_140 ?_
      refine lv_iadd hx hb dX7_aim_141 ?_
      exact q_reti hx hb hr hlocks hC ⟨hT.symm, rfl⟩ dX7_aim_142
  have J101 : ∀ (x3 : Int32) (H : Heap) (locs : List Loc) (ls : Array Slot) (hT : sp_X7_aim M a1 a2 = sp_X7_aim_B101 M a1 a2 x3) (hC : Cx D cy ad R0 L (fA ad L s.heap.size) s M H locs) (hl : lv_has ls 6 [(0, .ref (ad 20)), (1, .int a1), (2, .int a2)]), W p l e ({ frames := 1, cells := 0, slots := 0, locals := 23 }) s m ([.ref (ad 20), .int a1, .int a2] : List Value).toArray below meth c H locs 0 0 (MQ below (va_Qi (fun r N => r = sp_X7_aim M a1 a2 ∧ N = M) (OW D cy ad L s.heap.size) (fA ad L s.heap.size)) ([.ref (ad 20), .int a1, .int a2] : List Value).toArray s 0 0 (fA ad L s.heap.size)) (F0 m 101 ls [.int x3]) := by
    intro x3 H locs ls  hT hC hl
    have hT : sp_X7_aim M a1 a2 = if a2 = 0 then (sp_X7_aim_B128 M a1 a2 x3 (sp_X7_down (gI M 25 0))) else (sp_X7_aim_B128 M a1 a2 x3 (sp_X7_across (gI M 25 0))) := hT
    refine lv_istore (lv' := [(4, .int x3), (0, .ref (ad 20)), (1, .int a1), (2, .int a2)]) hx hb dX7_aim_101 hl (by decide) rfl (fun ls hl => ?_)
    refine lv_iload_n hx hb dX7_aim_103 rfl (lv_at hl 3 rfl) ?_
    refine lv_if_eq (tgt := 119) hx hb dX7_aim_104 (by decide) (fun c104 => ?_) (fun c104 => ?_)
    · have hT : sp_X7_aim M a1 a2 = sp_X7_aim_B128 M a1 a2 x3 (sp_X7_down (gI M 25 0)) := hT.trans (if_pos c104)
      refine lv_aload_n hx hb dX7_aim_119 rfl (lv_at hl 1 rfl) ?_
      refine q_getr (T := TX7) hx hb hB uw_X7 hown hK hC rfl (hL 20 (by decide) (by decide)) rfl 18 (by decide) rfl rfl (hB _ mw_3_62) dX7_aim_120 ?_
      refine lv_iconst (v := 0) hx hb dX7_aim_123 (by decide) ?_
      refine q_iald (k := 0) hx hb hK hC rfl (hL 25 (by decide) (by decide)) rfl (by unfold vp_in; decide) (by decide) dX7_aim_124 ?_
      refine q_Ci (q_S (own := "MazeBoardModel") (y := yX7_down) (As := [.int (gI M 25 0)]) (rest := []) ⟨hx, hb, hml, hown, hB⟩ hK hE hC (c_X7_down l D cy ad L H.size M (gI M 25 0)) mw_3_185 mw_3_186 mw_1_7 mw_3_187 yd_X7_down ⟨rfl, rfl⟩ ⟨Nat.le_of_ble_eq_true rfl, Nat.le_of_ble_eq_true rfl⟩ rfl hl.1 rfl (Nat.le_of_ble_eq_true rfl) dX7_aim_125 ⟨Nat.le_refl _, Nat.le_refl _⟩) hC (fun r N_ H locs hp hC => ?_)
      obtain ⟨hr_, hM_⟩ := hp
      subst hr_
      rw [hM_] at hC
      exact J128 x3 (sp_X7_down (gI M 25 0)) _ _ _  hT hC (lv_sub hl [1, 2, 3, 0] rfl)
    · have hT : sp_X7_aim M a1 a2 = sp_X7_aim_B128 M a1 a2 x3 (sp_X7_across (gI M 25 0)) := hT.trans (if_neg c104)
      refine lv_aload_n hx hb dX7_aim_107 rfl (lv_at hl 1 rfl) ?_
      refine q_getr (T := TX7) hx hb hB uw_X7 hown hK hC rfl (hL 20 (by decide) (by decide)) rfl 18 (by decide) rfl rfl (hB _ mw_3_62) dX7_aim_108 ?_
      refine lv_iconst (v := 0) hx hb dX7_aim_111 (by decide) ?_
      refine q_iald (k := 0) hx hb hK hC rfl (hL 25 (by decide) (by decide)) rfl (by unfold vp_in; decide) (by decide) dX7_aim_112 ?_
      refine q_Ci (q_S (own := "MazeBoardModel") (y := yX7_across) (As := [.int (gI M 25 0)]) (rest := []) ⟨hx, hb, hml, hown, hB⟩ hK hE hC (c_X7_across l D cy ad L H.size M (gI M 25 0)) mw_3_192 mw_3_193 mw_1_7 mw_3_194 yd_X7_across ⟨rfl, rfl⟩ ⟨Nat.le_of_ble_eq_true rfl, Nat.le_of_ble_eq_true rfl⟩ rfl hl.1 rfl (Nat.le_of_ble_eq_true rfl) dX7_aim_113 ⟨Nat.le_refl _, Nat.le_refl _⟩) hC (fun r N_ H locs hp hC => ?_)
      obtain ⟨hr_, hM_⟩ := hp
      subst hr_
      rw [hM_] at hC
      refine lv_goto (tgt := 128) hx hb dX7_aim_116 (by decide) ?_
      exact J128 x3 (sp_X7_across (gI M 25 0)) _ _ _  hT hC (lv_sub hl [1, 2, 3, 0] rfl)
  have J82 : ∀  (H : Heap) (locs : List Loc) (ls : Array Slot) (hT : sp_X7_aim M a1 a2 = sp_X7_aim_B82 M a1 a2) (hC : Cx D cy ad R0 L (fA ad L s.heap.size) s M H locs) (hl : lv_has ls 6 [(0, .ref (ad 20)), (1, .int a1), (2, .int a2)]), W p l e ({ frames := 1, cells := 0, slots := 0, locals := 23 }) s m ([.ref (ad 20), .int a1, .int a2] : List Value).toArray below meth c H locs 0 0 (MQ below (va_Qi (fun r N => r = sp_X7_aim M a1 a2 ∧ N = M) (OW D cy ad L s.heap.size) (fA ad L s.heap.size)) ([.ref (ad 20), .int a1, .int a2] : List Value).toArray s 0 0 (fA ad L s.heap.size)) (F0 m 82 ls []) := by
    intro  H locs ls  hT hC hl
    have hT : sp_X7_aim M a1 a2 = if a2 = 0 then (sp_X7_aim_B101 M a1 a2 (gI M 24 0)) else (sp_X7_aim_B101 M a1 a2 (gI M 23 0)) := hT
    refine lv_iload_n hx hb dX7_aim_82 rfl (lv_at hl 2 rfl) ?_
    refine lv_if_eq (tgt := 95) hx hb dX7_aim_83 (by decide) (fun c83 => ?_) (fun c83 => ?_)
    · have hT : sp_X7_aim M a1 a2 = sp_X7_aim_B101 M a1 a2 (gI M 24 0) := hT.trans (if_pos c83)
      refine lv_aload_n hx hb dX7_aim_95 rfl (lv_at hl 0 rfl) ?_
      refine q_getr (T := TX7) hx hb hB uw_X7 hown hK hC rfl (hL 20 (by decide) (by decide)) rfl 17 (by decide) rfl rfl (hB _ mw_3_61) dX7_aim_96 ?_
      refine lv_iconst (v := 0) hx hb dX7_aim_99 (by decide) ?_
      refine q_iald (k := 0) hx hb hK hC rfl (hL 24 (by decide) (by decide)) rfl (by unfold vp_in; decide) (by decide) dX7_aim_100 ?_
      exact J101 (gI M 24 0) _ _ _  hT hC (lv_sub hl [0, 1, 2] rfl)
    · have hT : sp_X7_aim M a1 a2 = sp_X7_aim_B101 M a1 a2 (gI M 23 0) := hT.trans (if_neg c83)
      refine lv_aload_n hx hb dX7_aim_86 rfl (lv_at hl 0 rfl) ?_
      refine q_getr (T := TX7) hx hb hB uw_X7 hown hK hC rfl (hL 20 (by decide) (by decide)) rfl 16 (by decide) rfl rfl (hB _ mw_3_60) dX7_aim_87 ?_
      refine lv_iconst (v := 0) hx hb dX7_aim_90 (by decide) ?_
      refine q_iald (k := 0) hx hb hK hC rfl (hL 23 (by decide) (by decide)) rfl (by unfold vp_in; decide) (by decide) dX7_aim_91 ?_
      refine lv_goto (tgt := 101) hx hb dX7_aim_92 (by decide) ?_
      exact J101 (gI M 23 0) _ _ _  hT hC (lv_sub hl [0, 1, 2] rfl)
  have J80 : ∀ (x2 : Int32) (H : Heap) (locs : List Loc) (ls : Array Slot) (hT : sp_X7_aim M a1 a2 = sp_X7_aim_B80 x2) (hC : Cx D cy ad R0 L (fA ad L s.heap.size) s M H locs) (hl : lv_has ls 6 [(3, .int x2)]), W p l e ({ frames := 1, cells := 0, slots := 0, locals := 23 }) s m ([.ref (ad 20), .int a1, .int a2] : List Value).toArray below meth c H locs 0 0 (MQ below (va_Qi (fun r N => r = sp_X7_aim M a1 a2 ∧ N = M) (OW D cy ad L s.heap.size) (fA ad L s.heap.size)) ([.ref (ad 20), .int a1, .int a2] : List Value).toArray s 0 0 (fA ad L s.heap.size)) (F0 m 80 ls []) := by
    intro x2 H locs ls  hT hC hl
    have hT : sp_X7_aim M a1 a2 = x2 := hT
    refine lv_iload_n hx hb dX7_aim_80 rfl (lv_at hl 0 rfl) ?_
    exact q_reti hx hb hr hlocks hC ⟨hT.symm, rfl⟩ dX7_aim_81
  have J35 : ∀ (x2 : Int32) (H : Heap) (locs : List Loc) (ls : Array Slot) (hT : sp_X7_aim M a1 a2 = sp_X7_aim_B35 M a1 a2 x2) (hV : vc_X7_aim_B35 M a1 a2 x2) (hC : Cx D cy ad R0 L (fA ad L s.heap.size) s M H locs) (hl : lv_has ls 6 [(0, .ref (ad 20)), (1, .int a1), (2, .int a2)]), W p l e ({ frames := 1, cells := 0, slots := 0, locals := 23 }) s m ([.ref (ad 20), .int a1, .int a2] : List Value).toArray below meth c H locs 0 0 (MQ below (va_Qi (fun r N => r = sp_X7_aim M a1 a2 ∧ N = M) (OW D cy ad L s.heap.size) (fA ad L s.heap.size)) ([.ref (ad 20), .int a1, .int a2] : List Value).toArray s 0 0 (fA ad L s.heap.size)) (F0 m 35 ls [.int x2]) := by
    intro x2 H locs ls  hT hV hC hl
    have hT : sp_X7_aim M a1 a2 = if (sp_X7_scatters M) = 0 then (if a1 = 4 then (if 9 ≤ (sp_X7_distance (gI M 23 4) (gI M 24 4) (gI M 23 0) (gI M 24 0)) then (sp_X7_aim_B82 M a1 a2) else (sp_X7_aim_B80 x2)) else (sp_X7_aim_B82 M a1 a2)) else (sp_X7_aim_B80 x2) := hT
    have hV : vc_X7_scatters M := hV
    refine lv_istore_n (lv' := [(3, .int x2), (0, .ref (ad 20)), (1, .int a1), (2, .int a2)]) hx hb dX7_aim_35 rfl hl (by decide) rfl (fun ls hl => ?_)
    refine lv_aload_n hx hb dX7_aim_36 rfl (lv_at hl 1 rfl) ?_
    have v37 : vc_X7_scatters M := hV
    refine q_Ci (q_V (own := "MazeBoardModel") (y := yX7_scatters) (As := []) (rest := []) ⟨hx, hb, hml, hown, hB⟩ hK hE hC (c_X7_scatters l D cy ad L H.size (hL.sub (by decide) (by decide)) M  v37) rfl (hL 20 (by decide) (by decide)) rfl mw_3_235 mw_3_237 mw_0_41 mw_1_7 mw_3_238 rfl yd_X7_scatters ⟨rfl, rfl⟩ ⟨Nat.le_of_ble_eq_true rfl, Nat.le_of_ble_eq_true rfl⟩ rfl hl.1 rfl (Nat.le_of_ble_eq_true rfl) dX7_aim_37 ⟨Nat.le_refl _, Nat.le_refl _⟩) hC (fun r N_ H locs hp hC => ?_)
    obtain ⟨hr_, hM_⟩ := hp
    subst hr_
    rw [hM_] at hC
    refine lv_if_ne (tgt := 80) hx hb dX7_aim_40 (by decide) (fun c40 => ?_) (fun c40 => ?_)
    · have hT : sp_X7_aim M a1 a2 = sp_X7_aim_B80 x2 := hT.trans (if_neg c40)
      exact J80 x2 _ _ _  hT hC (lv_sub hl [0] rfl)
    · have hT : sp_X7_aim M a1 a2 = if a1 = 4 then (if 9 ≤ (sp_X7_distance (gI M 23 4) (gI M 24 4) (gI M 23 0) (gI M 24 0)) then (sp_X7_aim_B82 M a1 a2) else (sp_X7_aim_B80 x2)) else (sp_X7_aim_B82 M a1 a2) := hT.trans (if_pos c40)
      refine lv_iload_n hx hb dX7_aim_43 rfl (lv_at hl 2 rfl) ?_
      refine lv_iconst (v := 4) hx hb dX7_aim_44 (by decide) ?_
      refine lv_icmp_ne (tgt := 82) hx hb dX7_aim_45 (by decide) (fun c45 => ?_) (fun c45 => ?_)
      · have hT : sp_X7_aim M a1 a2 = sp_X7_aim_B82 M a1 a2 := hT.trans (if_neg c45)
        exact J82  _ _ _  hT hC (lv_sub hl [1, 2, 3] rfl)
      · have hT : sp_X7_aim M a1 a2 = if 9 ≤ (sp_X7_distance (gI M 23 4) (gI M 24 4) (gI M 23 0) (gI M 24 0)) then (sp_X7_aim_B82 M a1 a2) else (sp_X7_aim_B80 x2) := hT.trans (if_pos c45)
        refine lv_aload_n hx hb dX7_aim_48 rfl (lv_at hl 1 rfl) ?_
        refine q_getr (T := TX7) hx hb hB uw_X7 hown hK hC rfl (hL 20 (by decide) (by decide)) rfl 16 (by decide) rfl rfl (hB _ mw_3_60) dX7_aim_49 ?_
        refine lv_iconst (v := 4) hx hb dX7_aim_52 (by decide) ?_
        refine q_iald (k := 4) hx hb hK hC rfl (hL 23 (by decide) (by decide)) rfl (by unfold vp_in; decide) (by decide) dX7_aim_53 ?_
        refine lv_aload_n hx hb dX7_aim_54 rfl (lv_at hl 1 rfl) ?_
        refine q_getr (T := TX7) hx hb hB uw_X7 hown hK hC rfl (hL 20 (by decide) (by decide)) rfl 17 (by decide) rfl rfl (hB _ mw_3_61) dX7_aim_55 ?_
        refine lv_iconst (v := 4) hx hb dX7_aim_58 (by decide) ?_
        refine q_iald (k := 4) hx hb hK hC rfl (hL 24 (by decide) (by decide)) rfl (by unfold vp_in; decide) (by decide) dX7_aim_59 ?_
        refine lv_aload_n hx hb dX7_aim_60 rfl (lv_at hl 1 rfl) ?_
        refine q_getr (T := TX7) hx hb hB uw_X7 hown hK hC rfl (hL 20 (by decide) (by decide)) rfl 16 (by decide) rfl rfl (hB _ mw_3_60) dX7_aim_61 ?_
        refine lv_iconst (v := 0) hx hb dX7_aim_64 (by decide) ?_
        refine q_iald (k := 0) hx hb hK hC rfl (hL 23 (by decide) (by decide)) rfl (by unfold vp_in; decide) (by decide) dX7_aim_65 ?_
        refine lv_aload_n hx hb dX7_aim_66 rfl (lv_at hl 1 rfl) ?_
        refine q_getr (T := TX7) hx hb hB uw_X7 hown hK hC rfl (hL 20 (by decide) (by decide)) rfl 17 (by decide) rfl rfl (hB _ mw_3_61) dX7_aim_67 ?_
        refine lv_iconst (v := 0) hx hb dX7_aim_70 (by decide) ?_
        refine q_iald (k := 0) hx hb hK hC rfl (hL 24 (by decide) (by decide)) rfl (by unfold vp_in; decide) (by decide) dX7_aim_71 ?_
        refine q_Ci (q_S (own := "MazeBoardModel") (y := yX7_distance) (As := [.int (gI M 23 4), .int (gI M 24 4), .int (gI M 23 0), .int (gI M 24 0)]) (rest := []) ⟨hx, hb, hml, hown, hB⟩ hK hE hC (c_X7_distance l D cy ad L H.size M (gI M 23 4) (gI M 24 4) (gI M 23 0) (gI M 24 0)) mw_3_239 mw_4_0 mw_1_7 mw_4_1 yd_X7_distance ⟨rfl, rfl⟩ ⟨Nat.le_of_ble_eq_true rfl, Nat.le_of_ble_eq_true rfl⟩ rfl hl.1 rfl (Nat.le_of_ble_eq_true rfl) dX7_aim_72 ⟨Nat.le_refl _, Nat.le_refl _⟩) hC (fun r N_ H locs hp hC => ?_)
        obtain ⟨hr_, hM_⟩ := hp
        subst hr_
        rw [hM_] at hC
        refine lv_bipush (v := 9) hx hb dX7_aim_75 (by decide) ?_
        refine lv_icmp_ge (tgt := 82) hx hb dX7_aim_77 (by decide) (fun c77 => ?_) (fun c77 => ?_)
        · have hT : sp_X7_aim M a1 a2 = sp_X7_aim_B82 M a1 a2 := hT.trans (if_pos c77)
          exact J82  _ _ _  hT hC (lv_sub hl [1, 2, 3] rfl)
        · have hT : sp_X7_aim M a1 a2 = sp_X7_aim_B80 x2 := hT.trans (if_neg c77)
          exact J80 x2 _ _ _  hT hC (lv_sub hl [0] rfl)
  have J19 : ∀ (x1 : Int32) (H : Heap) (locs : List Loc) (ls : Array Slot) (hT : sp_X7_aim M a1 a2 = sp_X7_aim_B19 x1) (hC : Cx D cy ad R0 L (fA ad L s.heap.size) s M H locs) (hl : lv_has ls 6 []), W p l e ({ frames := 1, cells := 0, slots := 0, locals := 23 }) s m ([.ref (ad 20), .int a1, .int a2] : List Value).toArray below meth c H locs 0 0 (MQ below (va_Qi (fun r N => r = sp_X7_aim M a1 a2 ∧ N = M) (OW D cy ad L s.heap.size) (fA ad L s.heap.size)) ([.ref (ad 20), .int a1, .int a2] : List Value).toArray s 0 0 (fA ad L s.heap.size)) (F0 m 19 ls [.int x1]) := by
    intro x1 H locs ls  hT hC hl
    have hT : sp_X7_aim M a1 a2 = x1 := hT
    exact q_reti hx hb hr hlocks hC ⟨hT.symm, rfl⟩ dX7_aim_19
  have hT : sp_X7_aim M a1 a2 = if (gI M 29 a1.toNatClampNeg) = 0 then (if a2 = 0 then (sp_X7_aim_B35 M a1 a2 (sp_X7_cornerRow a1)) else (sp_X7_aim_B35 M a1 a2 (sp_X7_cornerColumn a1))) else (if a2 = 0 then (sp_X7_aim_B19 2) else (sp_X7_aim_B19 6)) := rfl
  have hV : vp_in a1 5 ∧ (if (gI M 29 a1.toNatClampNeg) = 0 then (if a2 = 0 then (vc_X7_aim_B35 M a1 a2 (sp_X7_cornerRow a1)) else (vc_X7_aim_B35 M a1 a2 (sp_X7_cornerColumn a1))) else True) := hV
  refine lv_aload_n hx hb dX7_aim_0 rfl (lv_at hl 0 rfl) ?_
  refine q_getr (T := TX7) hx hb hB uw_X7 hown hK hC rfl (hL 20 (by decide) (by decide)) rfl 22 (by decide) rfl rfl (hB _ mw_3_66) dX7_aim_1 ?_
  refine lv_iload_n hx hb dX7_aim_4 rfl (lv_at hl 1 rfl) ?_
  obtain ⟨w5, hV⟩ : vp_in a1 5 ∧ (if (gI M 29 a1.toNatClampNeg) = 0 then (if a2 = 0 then (vc_X7_aim_B35 M a1 a2 (sp_X7_cornerRow a1)) else (vc_X7_aim_B35 M a1 a2 (sp_X7_cornerColumn a1))) else True) := hV
  refine q_zald hx hb hK hC rfl (hL 29 (by decide) (by decide)) rfl w5 rfl dX7_aim_5 ?_
  refine lv_if_eq (tgt := 20) hx hb dX7_aim_6 (by decide) (fun c6 => ?_) (fun c6 => ?_)
  · have hT : sp_X7_aim M a1 a2 = if a2 = 0 then (sp_X7_aim_B35 M a1 a2 (sp_X7_cornerRow a1)) else (sp_X7_aim_B35 M a1 a2 (sp_X7_cornerColumn a1)) := hT.trans (if_pos c6)
    have hV : if a2 = 0 then (vc_X7_aim_B35 M a1 a2 (sp_X7_cornerRow a1)) else (vc_X7_aim_B35 M a1 a2 (sp_X7_cornerColumn a1)) := iteT hV c6
    refine lv_iload_n hx hb dX7_aim_20 rfl (lv_at hl 2 rfl) ?_
    refine lv_if_eq (tgt := 31) hx hb dX7_aim_21 (by decide) (fun c21 => ?_) (fun c21 => ?_)
    · have hT : sp_X7_aim M a1 a2 = sp_X7_aim_B35 M a1 a2 (sp_X7_cornerRow a1) := hT.trans (if_pos c21)
      have hV : vc_X7_aim_B35 M a1 a2 (sp_X7_cornerRow a1) := iteT hV c21
      refine lv_iload_n hx hb dX7_aim_31 rfl (lv_at hl 1 rfl) ?_
      refine q_Ci (q_S (own := "MazeBoardModel") (y := yX7_cornerRow) (As := [.int a1]) (rest := []) ⟨hx, hb, hml, hown, hB⟩ hK hE hC (c_X7_cornerRow l D cy ad L H.size M a1) mw_3_232 mw_3_233 mw_1_7 mw_3_234 yd_X7_cornerRow ⟨rfl, rfl⟩ ⟨Nat.le_of_ble_eq_true rfl, Nat.le_of_ble_eq_true rfl⟩ rfl hl.1 rfl (Nat.le_of_ble_eq_true rfl) dX7_aim_32 ⟨Nat.le_refl _, Nat.le_refl _⟩) hC (fun r N_ H locs hp hC => ?_)
      obtain ⟨hr_, hM_⟩ := hp
      subst hr_
      rw [hM_] at hC
      exact J35 (sp_X7_cornerRow a1) _ _ _  hT hV hC (lv_sub hl [0, 1, 2] rfl)
    · have hT : sp_X7_aim M a1 a2 = sp_X7_aim_B35 M a1 a2 (sp_X7_cornerColumn a1) := hT.trans (if_neg c21)
      have hV : vc_X7_aim_B35 M a1 a2 (sp_X7_cornerColumn a1) := iteF hV c21
      refine lv_iload_n hx hb dX7_aim_24 rfl (lv_at hl 1 rfl) ?_
      refine q_Ci (q_S (own := "MazeBoardModel") (y := yX7_cornerColumn) (As := [.int a1]) (rest := []) ⟨hx, hb, hml, hown, hB⟩ hK hE hC (c_X7_cornerColumn l D cy ad L H.size M a1) mw_3_229 mw_3_230 mw_1_7 mw_3_231 yd_X7_cornerColumn ⟨rfl, rfl⟩ ⟨Nat.le_of_ble_eq_true rfl, Nat.le_of_ble_eq_true rfl⟩ rfl hl.1 rfl (Nat.le_of_ble_eq_true rfl) dX7_aim_25 ⟨Nat.le_refl _, Nat.le_refl _⟩) hC (fun r N_ H locs hp hC => ?_)
      obtain ⟨hr_, hM_⟩ := hp
      subst hr_
      rw [hM_] at hC
      refine lv_goto (tgt := 35) hx hb dX7_aim_28 (by decide) ?_
      exact J35 (sp_X7_cornerColumn a1) _ _ _  hT hV hC (lv_sub hl [0, 1, 2] rfl)
  · have hT : sp_X7_aim M a1 a2 = if a2 = 0 then (sp_X7_aim_B19 2) else (sp_X7_aim_B19 6) := hT.trans (if_neg c6)
    refine lv_iload_n hx hb dX7_aim_9 rfl (lv_at hl 2 rfl) ?_
    refine lv_if_eq (tgt := 18) hx hb dX7_aim_10 (by decide) (fun c10 => ?_) (fun c10 => ?_)
    · have hT : sp_X7_aim M a1 a2 = sp_X7_aim_B19 2 := hT.trans (if_pos c10)
      refine lv_iconst (v := 2) hx hb dX7_aim_18 (by decide) ?_
      exact J19 2 _ _ _  hT hC (lv_sub hl [] rfl)
    · have hT : sp_X7_aim M a1 a2 = sp_X7_aim_B19 6 := hT.trans (if_neg c10)
      refine lv_bipush (v := 6) hx hb dX7_aim_13 (by decide) ?_
      refine lv_goto (tgt := 19) hx hb dX7_aim_15 (by decide) ?_
      exact J19 6 _ _ _  hT hC (lv_sub hl [] rfl)
set_option maxHeartbeats 4000000 in
set_option maxRecDepth 100000 in
theorem c_X7_drawn (l : Launch) (D : va_G) (cy ad : Nat → Nat) (L : List Nat) (sz : Nat) (hL : lr 20 34 L) (M : Mem)  : Met l yX7_drawn (Cond.code yX7_drawn cX7_drawn 1 (some .int) :: BG) ({ frames := 0, cells := 0, slots := 0, locals := 0 }) (va_Pc [.ref (ad 20)] (PW D cy ad L M sz)) (va_Qi (fun r N => r = (sp_X7_drawn M).1 ∧ N = (sp_X7_drawn M).2) (OW D cy ad L sz) (fA ad L sz)) 0 0 (fA ad L sz) := by
  refine q_start (by decide) (Nat.le_of_ble_eq_true rfl) (fun p e s m below meth c H locs ls hsz hx hb hr hlocks hml hown hB hK hE hC hl => ?_)
  subst hsz
  have hown : s.vm.findClass "MazeBoardModel" = some m.cls := hown
  have hl : lv_has ls 1 [(0, .ref (ad 20))] := hl
  have hT : sp_X7_drawn M = sp_X7_drawn_n1 (wI M 20 14 (((gI M 20 14) * 1103515245) + 12345)) := rfl
  refine lv_aload_n hx hb dX7_drawn_0 rfl (lv_at hl 0 rfl) ?_
  refine lv_aload_n hx hb dX7_drawn_1 rfl (lv_at hl 0 rfl) ?_
  refine q_geti (T := TX7) hx hb hB uw_X7 hown hK hC rfl (hL 20 (by decide) (by decide)) rfl 14 (by decide) rfl (hB _ mw_3_58) dX7_drawn_2 ?_
  refine lv_ldc (v := 1103515245) hx hb hown (hB _ mw_3_224) dX7_drawn_5 ?_
  refine lv_imul hx hb dX7_drawn_7 ?_
  refine lv_sipush (v := 12345) hx hb dX7_drawn_8 (by decide) ?_
  refine lv_iadd hx hb dX7_drawn_11 ?_
  refine q_puti (T := TX7) hx hb hB uw_X7 tyX7 tyX7_ok nmX7 hown hK hC rfl (hL 20 (by decide) (by decide)) rfl 14 (by decide) rfl (hB _ mw_3_58) rfl rfl rfl rfl dX7_drawn_12 (fun H locs hC => ?_)
  obtain ⟨M1, eM1⟩ : ∃ z : Mem, z = wI M 20 14 (((gI M 20 14) * 1103515245) + 12345) := ⟨_, rfl⟩
  rw [← eM1] at hC
  have hT : sp_X7_drawn M = sp_X7_drawn_n1 M1 := by rw [eM1]; exact hT
  refine lv_aload_n hx hb dX7_drawn_15 rfl (lv_at hl 0 rfl) ?_
  refine q_geti (T := TX7) hx hb hB uw_X7 hown hK hC rfl (hL 20 (by decide) (by decide)) rfl 14 (by decide) rfl (hB _ mw_3_58) dX7_drawn_16 ?_
  refine lv_bipush (v := 16) hx hb dX7_drawn_19 (by decide) ?_
  refine lv_ishr hx hb dX7_drawn_21 ?_
  refine lv_iconst (v := 3) hx hb dX7_drawn_22 (by decide) ?_
  refine lv_iand hx hb dX7_drawn_23 ?_
  exact q_reti hx hb hr hlocks hC ⟨(congrArg Prod.fst hT).symm, (congrArg Prod.snd hT).symm⟩ dX7_drawn_24
set_option maxHeartbeats 4000000 in
set_option maxRecDepth 100000 in
theorem c_X7_choose (l : Launch) (D : va_G) (cy ad : Nat → Nat) (L : List Nat) (sz : Nat) (hL : lr 20 34 L) (M : Mem) (a1 : Int32) (hV : vc_X7_choose M a1) : Met l yX7_choose (Cond.code yX7_choose cX7_choose 12 (none) :: BG) ({ frames := 3, cells := 0, slots := 0, locals := 66 }) (va_Pc [.ref (ad 20), .int a1] (PW D cy ad L M sz)) (va_Qv (fun N => N = sp_X7_choose M a1) (OW D cy ad L sz) (fA ad L sz)) 0 0 (fA ad L sz) := by
  refine q_start (by decide) (Nat.le_of_ble_eq_true rfl) (fun p e s m below meth c H locs ls hsz hx hb hr hlocks hml hown hB hK hE hC hl => ?_)
  subst hsz
  have hown : s.vm.findClass "MazeBoardModel" = some m.cls := hown
  have hl : lv_has ls 12 [(0, .ref (ad 20)), (1, .int a1)] := hl
  have J215 : ∀ (M11 : Mem) (x22 : Int32) (H : Heap) (locs : List Loc) (ls : Array Slot) (hT : sp_X7_choose M a1 = sp_X7_choose_B215 a1 M11 x22) (hV : vc_X7_choose_B215 a1 M11 x22) (hC : Cx D cy ad R0 L (fA ad L s.heap.size) s M11 H locs) (hl : lv_has ls 12 []), W p l e ({ frames := 3, cells := 0, slots := 0, locals := 66 }) s m ([.ref (ad 20), .int a1] : List Value).toArray below meth c H locs 0 0 (MQ below (va_Qv (fun N => N = sp_X7_choose M a1) (OW D cy ad L s.heap.size) (fA ad L s.heap.size)) ([.ref (ad 20), .int a1] : List Value).toArray s 0 0 (fA ad L s.heap.size)) (F0 m 215 ls [.int x22, .int a1, .ref (ad 25)]) := by
    intro M11 x22 H locs ls  hT hV hC hl
    have hT : sp_X7_choose M a1 = sp_X7_choose_n1 (wI M11 25 a1.toNatClampNeg x22) := hT
    have hV : vp_in a1 5 := hV
    have w215 : vp_in a1 5 := hV
    refine q_iast hx hb hK hC rfl (hL 25 (by decide) (by decide)) rfl w215 rfl dX7_choose_215 (fun H locs hC => ?_)
    obtain ⟨M23, eM23⟩ : ∃ z : Mem, z = wI M11 25 a1.toNatClampNeg x22 := ⟨_, rfl⟩
    rw [← eM23] at hC
    have hT : sp_X7_choose M a1 = sp_X7_choose_n1 M23 := by rw [eM23]; exact hT
    exact q_retv hx hb hr hlocks hC hT.symm dX7_choose_216
  have J107 : ∀ (n : Nat) (x7 : Int32) (x10 : Int32) (M11 : Mem) (x12 : Int32) (x13 : Int32) (x14 : Int32) (x15 : Int32) (x16 : Int32) (H : Heap) (locs : List Loc) (ls : Array Slot) (hT : sp_X7_choose M a1 = sp_X7_choose_B107 n a1 x7 x10 M11 x12 x13 x14 x15 x16) (hV : vc_X7_choose_B107 n a1 x7 x10 M11 x12 x13 x14 x15 x16) (hC : Cx D cy ad R0 L (fA ad L s.heap.size) s M11 H locs) (hl : lv_has ls 12 [(0, .ref (ad 20)), (1, .int a1), (3, .int x7), (4, .int x10), (5, .int x12), (6, .int x13), (7, .int x14), (8, .int x15), (9, .int x16)]), W p l e ({ frames := 3, cells := 0, slots := 0, locals := 66 }) s m ([.ref (ad 20), .int a1] : List Value).toArray below meth c H locs 0 0 (MQ below (va_Qv (fun N => N = sp_X7_choose M a1) (OW D cy ad L s.heap.size) (fA ad L s.heap.size)) ([.ref (ad 20), .int a1] : List Value).toArray s 0 0 (fA ad L s.heap.size)) (F0 m 107 ls []) := by
    intro n
    induction n with
    | zero => intro x7 x10 M11 x12 x13 x14 x15 x16 H locs ls  hT hV; exact hV.elim
    | succ n ih =>
      have J188 : ∀ (x7 : Int32) (x10 : Int32) (M11 : Mem) (x12 : Int32) (x13 : Int32) (x16 : Int32) (x19 : Int32) (x20 : Int32) (H : Heap) (locs : List Loc) (ls : Array Slot) (hT : sp_X7_choose M a1 = sp_X7_choose_B188 (sp_X7_choose_B107 n) a1 x7 x10 M11 x12 x13 x16 x19 x20) (hV : vc_X7_choose_B188 (vc_X7_choose_B107 n) a1 x7 x10 M11 x12 x13 x16 x19 x20) (hC : Cx D cy ad R0 L (fA ad L s.heap.size) s M11 H locs) (hl : lv_has ls 12 [(0, .ref (ad 20)), (1, .int a1), (3, .int x7), (4, .int x10), (5, .int x12), (6, .int x13), (7, .int x19), (8, .int x20), (9, .int x16)]), W p l e ({ frames := 3, cells := 0, slots := 0, locals := 66 }) s m ([.ref (ad 20), .int a1] : List Value).toArray below meth c H locs 0 0 (MQ below (va_Qv (fun N => N = sp_X7_choose M a1) (OW D cy ad L s.heap.size) (fA ad L s.heap.size)) ([.ref (ad 20), .int a1] : List Value).toArray s 0 0 (fA ad L s.heap.size)) (F0 m 188 ls []) := by
        intro x7 x10 M11 x12 x13 x16 x19 x20 H locs ls  hT hV hC hl
        have hT : sp_X7_choose M a1 = sp_X7_choose_n2 (sp_X7_choose_B107 n) a1 x7 x10 M11 x12 x13 x19 x20 (x16 + 1) := hT
        have hV : vc_X7_choose_n2 (vc_X7_choose_B107 n) a1 x7 x10 M11 x12 x13 x19 x20 (x16 + 1) := hV
        obtain ⟨x21, ex21⟩ : ∃ z : Int32, z = x16 + 1 := ⟨_, rfl⟩
        have hT : sp_X7_choose M a1 = sp_X7_choose_n2 (sp_X7_choose_B107 n) a1 x7 x10 M11 x12 x13 x19 x20 x21 := by rw [ex21]; exact hT
        have hV : vc_X7_choose_n2 (vc_X7_choose_B107 n) a1 x7 x10 M11 x12 x13 x19 x20 x21 := by rw [ex21]; exact hV
        refine lv_iinc (v := x21) (lv' := [(9, .int x21), (0, .ref (ad 20)), (1, .int a1), (3, .int x7), (4, .int x10), (5, .int x12), (6, .int x13), (7, .int x19), (8, .int x20)]) hx hb dX7_choose_188 hl (k := 8) rfl (by rw [ex21]; rfl) (by decide) rfl (fun ls hl => ?_)
        refine lv_goto (tgt := 107) hx hb dX7_choose_191 (by decide) ?_
        exact ih x7 x10 M11 x12 x13 x19 x20 x21 _ _ _  hT hV hC (lv_sub hl [1, 2, 3, 4, 5, 6, 7, 8, 0] rfl)
      have J180 : ∀ (x7 : Int32) (x10 : Int32) (M11 : Mem) (x12 : Int32) (x13 : Int32) (x16 : Int32) (x17 : Int32) (x18 : Int32) (H : Heap) (locs : List Loc) (ls : Array Slot) (hT : sp_X7_choose M a1 = sp_X7_choose_B180 (sp_X7_choose_B107 n) a1 x7 x10 M11 x12 x13 x16 x17 x18) (hV : vc_X7_choose_B180 (vc_X7_choose_B107 n) a1 x7 x10 M11 x12 x13 x16 x17 x18) (hC : Cx D cy ad R0 L (fA ad L s.heap.size) s M11 H locs) (hl : lv_has ls 12 [(0, .ref (ad 20)), (1, .int a1), (3, .int x7), (4, .int x10), (5, .int x12), (6, .int x13), (9, .int x16), (10, .int x17), (11, .int x18)]), W p l e ({ frames := 3, cells := 0, slots := 0, locals := 66 }) s m ([.ref (ad 20), .int a1] : List Value).toArray below meth c H locs 0 0 (MQ below (va_Qv (fun N => N = sp_X7_choose M a1) (OW D cy ad L s.heap.size) (fA ad L s.heap.size)) ([.ref (ad 20), .int a1] : List Value).toArray s 0 0 (fA ad L s.heap.size)) (F0 m 180 ls []) := by
        intro x7 x10 M11 x12 x13 x16 x17 x18 H locs ls  hT hV hC hl
        have hT : sp_X7_choose M a1 = sp_X7_choose_B188 (sp_X7_choose_B107 n) a1 x7 x10 M11 x12 x13 x16 x17 x18 := hT
        have hV : vc_X7_choose_B188 (vc_X7_choose_B107 n) a1 x7 x10 M11 x12 x13 x16 x17 x18 := hV
        refine lv_iload hx hb dX7_choose_180 (lv_at hl 7 rfl) ?_
        refine lv_istore (lv' := [(7, .int x17), (0, .ref (ad 20)), (1, .int a1), (3, .int x7), (4, .int x10), (5, .int x12), (6, .int x13), (9, .int x16), (10, .int x17), (11, .int x18)]) hx hb dX7_choose_182 hl (by decide) rfl (fun ls hl => ?_)
        refine lv_iload hx hb dX7_choose_184 (lv_at hl 9 rfl) ?_
        refine lv_istore (lv' := [(8, .int x18), (7, .int x17), (0, .ref (ad 20)), (1, .int a1), (3, .int x7), (4, .int x10), (5, .int x12), (6, .int x13), (9, .int x16), (10, .int x17), (11, .int x18)]) hx hb dX7_choose_186 hl (by decide) rfl (fun ls hl => ?_)
        exact J188 x7 x10 M11 x12 x13 x16 x17 x18 _ _ _  hT hV hC (lv_sub hl [2, 3, 4, 5, 6, 7, 1, 0, 8] rfl)
      have J166 : ∀ (x7 : Int32) (x10 : Int32) (M11 : Mem) (x12 : Int32) (x13 : Int32) (x14 : Int32) (x15 : Int32) (x16 : Int32) (x17 : Int32) (x18 : Int32) (H : Heap) (locs : List Loc) (ls : Array Slot) (hT : sp_X7_choose M a1 = sp_X7_choose_B166 (sp_X7_choose_B107 n) a1 x7 x10 M11 x12 x13 x14 x15 x16 x17 x18) (hV : vc_X7_choose_B166 (vc_X7_choose_B107 n) a1 x7 x10 M11 x12 x13 x14 x15 x16 x17 x18) (hC : Cx D cy ad R0 L (fA ad L s.heap.size) s M11 H locs) (hl : lv_has ls 12 [(0, .ref (ad 20)), (1, .int a1), (3, .int x7), (4, .int x10), (5, .int x12), (6, .int x13), (7, .int x14), (8, .int x15), (9, .int x16), (10, .int x17)]), W p l e ({ frames := 3, cells := 0, slots := 0, locals := 66 }) s m ([.ref (ad 20), .int a1] : List Value).toArray below meth c H locs 0 0 (MQ below (va_Qv (fun N => N = sp_X7_choose M a1) (OW D cy ad L s.heap.size) (fA ad L s.heap.size)) ([.ref (ad 20), .int a1] : List Value).toArray s 0 0 (fA ad L s.heap.size)) (F0 m 166 ls [.int x18]) := by
        intro x7 x10 M11 x12 x13 x14 x15 x16 x17 x18 H locs ls  hT hV hC hl
        have hT : sp_X7_choose M a1 = if x14 < 0 then (sp_X7_choose_B180 (sp_X7_choose_B107 n) a1 x7 x10 M11 x12 x13 x16 x17 x18) else (if x15 ≤ x18 then (sp_X7_choose_B188 (sp_X7_choose_B107 n) a1 x7 x10 M11 x12 x13 x16 x14 x15) else (sp_X7_choose_B180 (sp_X7_choose_B107 n) a1 x7 x10 M11 x12 x13 x16 x17 x18)) := hT
        have hV : if x14 < 0 then vc_X7_choose_B180 (vc_X7_choose_B107 n) a1 x7 x10 M11 x12 x13 x16 x17 x18 else (if x15 ≤ x18 then vc_X7_choose_B188 (vc_X7_choose_B107 n) a1 x7 x10 M11 x12 x13 x16 x14 x15 else vc_X7_choose_B180 (vc_X7_choose_B107 n) a1 x7 x10 M11 x12 x13 x16 x17 x18) := hV
        refine lv_istore (lv' := [(11, .int x18), (0, .ref (ad 20)), (1, .int a1), (3, .int x7), (4, .int x10), (5, .int x12), (6, .int x13), (7, .int x14), (8, .int x15), (9, .int x16), (10, .int x17)]) hx hb dX7_choose_166 hl (by decide) rfl (fun ls hl => ?_)
        refine lv_iload hx hb dX7_choose_168 (lv_at hl 7 rfl) ?_
        refine lv_if_lt (tgt := 180) hx hb dX7_choose_170 (by decide) (fun c170 => ?_) (fun c170 => ?_)
        · have hT : sp_X7_choose M a1 = sp_X7_choose_B180 (sp_X7_choose_B107 n) a1 x7 x10 M11 x12 x13 x16 x17 x18 := hT.trans (if_pos c170)
          have hV : vc_X7_choose_B180 (vc_X7_choose_B107 n) a1 x7 x10 M11 x12 x13 x16 x17 x18 := iteT hV c170
          exact J180 x7 x10 M11 x12 x13 x16 x17 x18 _ _ _  hT hV hC (lv_sub hl [1, 2, 3, 4, 5, 6, 9, 10, 0] rfl)
        · have hT : sp_X7_choose M a1 = if x15 ≤ x18 then (sp_X7_choose_B188 (sp_X7_choose_B107 n) a1 x7 x10 M11 x12 x13 x16 x14 x15) else (sp_X7_choose_B180 (sp_X7_choose_B107 n) a1 x7 x10 M11 x12 x13 x16 x17 x18) := hT.trans (if_neg c170)
          have hV : if x15 ≤ x18 then vc_X7_choose_B188 (vc_X7_choose_B107 n) a1 x7 x10 M11 x12 x13 x16 x14 x15 else vc_X7_choose_B180 (vc_X7_choose_B107 n) a1 x7 x10 M11 x12 x13 x16 x17 x18 := iteF hV c170
          refine lv_iload hx hb dX7_choose_173 (lv_at hl 0 rfl) ?_
          refine lv_iload hx hb dX7_choose_175 (lv_at hl 8 rfl) ?_
          refine lv_icmp_ge (tgt := 188) hx hb dX7_choose_177 (by decide) (fun c177 => ?_) (fun c177 => ?_)
          · have hT : sp_X7_choose M a1 = sp_X7_choose_B188 (sp_X7_choose_B107 n) a1 x7 x10 M11 x12 x13 x16 x14 x15 := hT.trans (if_pos c177)
            have hV : vc_X7_choose_B188 (vc_X7_choose_B107 n) a1 x7 x10 M11 x12 x13 x16 x14 x15 := iteT hV c177
            exact J188 x7 x10 M11 x12 x13 x16 x14 x15 _ _ _  hT hV hC (lv_sub hl [1, 2, 3, 4, 5, 6, 7, 8, 9] rfl)
          · have hT : sp_X7_choose M a1 = sp_X7_choose_B180 (sp_X7_choose_B107 n) a1 x7 x10 M11 x12 x13 x16 x17 x18 := hT.trans (if_neg c177)
            have hV : vc_X7_choose_B180 (vc_X7_choose_B107 n) a1 x7 x10 M11 x12 x13 x16 x17 x18 := iteF hV c177
            exact J180 x7 x10 M11 x12 x13 x16 x17 x18 _ _ _  hT hV hC (lv_sub hl [1, 2, 3, 4, 5, 6, 9, 10, 0] rfl)
      intro x7 x10 M11 x12 x13 x14 x15 x16 H locs ls  hT hV hC hl
      have hT : sp_X7_choose M a1 = if 4 ≤ x16 then (if 0 ≤ x14 then (sp_X7_choose_B215 a1 M11 x14) else (sp_X7_choose_B215 a1 M11 (gI M11 25 a1.toNatClampNeg))) else (sp_X7_choose_n3 (sp_X7_choose_B107 n) a1 x7 x10 M11 x12 x13 x14 x15 x16 ((x10 + x16) &&& 3)) := hT
      have hV : if 4 ≤ x16 then (if 0 ≤ x14 then vc_X7_choose_B215 a1 M11 x14 else (vp_in a1 5 ∧ (vc_X7_choose_B215 a1 M11 (gI M11 25 a1.toNatClampNeg)))) else (vc_X7_choose_n3 (vc_X7_choose_B107 n) a1 x7 x10 M11 x12 x13 x14 x15 x16 ((x10 + x16) &&& 3)) := hV
      refine lv_iload hx hb dX7_choose_107 (lv_at hl 8 rfl) ?_
      refine lv_iconst (v := 4) hx hb dX7_choose_109 (by decide) ?_
      refine lv_icmp_ge (tgt := 194) hx hb dX7_choose_110 (by decide) (fun c110 => ?_) (fun c110 => ?_)
      · have hT : sp_X7_choose M a1 = if 0 ≤ x14 then (sp_X7_choose_B215 a1 M11 x14) else (sp_X7_choose_B215 a1 M11 (gI M11 25 a1.toNatClampNeg)) := hT.trans (if_pos c110)
        have hV : if 0 ≤ x14 then vc_X7_choose_B215 a1 M11 x14 else (vp_in a1 5 ∧ (vc_X7_choose_B215 a1 M11 (gI M11 25 a1.toNatClampNeg))) := iteT hV c110
        refine lv_aload_n hx hb dX7_choose_194 rfl (lv_at hl 0 rfl) ?_
        refine q_getr (T := TX7) hx hb hB uw_X7 hown hK hC rfl (hL 20 (by decide) (by decide)) rfl 18 (by decide) rfl rfl (hB _ mw_3_62) dX7_choose_195 ?_
        refine lv_iload_n hx hb dX7_choose_198 rfl (lv_at hl 1 rfl) ?_
        refine lv_iload hx hb dX7_choose_199 (lv_at hl 6 rfl) ?_
        refine lv_if_ge (tgt := 213) hx hb dX7_choose_201 (by decide) (fun c201 => ?_) (fun c201 => ?_)
        · have hT : sp_X7_choose M a1 = sp_X7_choose_B215 a1 M11 x14 := hT.trans (if_pos c201)
          have hV : vc_X7_choose_B215 a1 M11 x14 := iteT hV c201
          refine lv_iload hx hb dX7_choose_213 (lv_at hl 6 rfl) ?_
          exact J215 M11 x14 _ _ _  hT hV hC (lv_sub hl [] rfl)
        · have hT : sp_X7_choose M a1 = sp_X7_choose_B215 a1 M11 (gI M11 25 a1.toNatClampNeg) := hT.trans (if_neg c201)
          have hV : vp_in a1 5 ∧ (vc_X7_choose_B215 a1 M11 (gI M11 25 a1.toNatClampNeg)) := iteF hV c201
          refine lv_aload_n hx hb dX7_choose_204 rfl (lv_at hl 0 rfl) ?_
          refine q_getr (T := TX7) hx hb hB uw_X7 hown hK hC rfl (hL 20 (by decide) (by decide)) rfl 18 (by decide) rfl rfl (hB _ mw_3_62) dX7_choose_205 ?_
          refine lv_iload_n hx hb dX7_choose_208 rfl (lv_at hl 1 rfl) ?_
          obtain ⟨w209, hV⟩ : vp_in a1 5 ∧ (vc_X7_choose_B215 a1 M11 (gI M11 25 a1.toNatClampNeg)) := hV
          refine q_iald hx hb hK hC rfl (hL 25 (by decide) (by decide)) rfl w209 rfl dX7_choose_209 ?_
          refine lv_goto (tgt := 215) hx hb dX7_choose_210 (by decide) ?_
          exact J215 M11 (gI M11 25 a1.toNatClampNeg) _ _ _  hT hV hC (lv_sub hl [] rfl)
      · have hT : sp_X7_choose M a1 = sp_X7_choose_n3 (sp_X7_choose_B107 n) a1 x7 x10 M11 x12 x13 x14 x15 x16 ((x10 + x16) &&& 3) := hT.trans (if_neg c110)
        have hV : vc_X7_choose_n3 (vc_X7_choose_B107 n) a1 x7 x10 M11 x12 x13 x14 x15 x16 ((x10 + x16) &&& 3) := iteF hV c110
        refine lv_iload hx hb dX7_choose_113 (lv_at hl 3 rfl) ?_
        refine lv_iload hx hb dX7_choose_115 (lv_at hl 8 rfl) ?_
        refine lv_iadd hx hb dX7_choose_117 ?_
        refine lv_iconst (v := 3) hx hb dX7_choose_118 (by decide) ?_
        refine lv_iand hx hb dX7_choose_119 ?_
        refine lv_topi (fun x17 ex17 => ?_)
        have hT : sp_X7_choose M a1 = sp_X7_choose_n3 (sp_X7_choose_B107 n) a1 x7 x10 M11 x12 x13 x14 x15 x16 x17 := by rw [ex17]; exact hT
        have hV : vc_X7_choose_n3 (vc_X7_choose_B107 n) a1 x7 x10 M11 x12 x13 x14 x15 x16 x17 := by rw [ex17]; exact hV
        refine lv_istore (lv' := [(10, .int x17), (0, .ref (ad 20)), (1, .int a1), (3, .int x7), (4, .int x10), (5, .int x12), (6, .int x13), (7, .int x14), (8, .int x15), (9, .int x16)]) hx hb dX7_choose_120 hl (by decide) rfl (fun ls hl => ?_)
        refine lv_iload_n hx hb dX7_choose_122 rfl (lv_at hl 3 rfl) ?_
        refine lv_iload hx hb dX7_choose_123 (lv_at hl 0 rfl) ?_
        refine lv_ishr hx hb dX7_choose_125 ?_
        refine lv_iconst (v := 1) hx hb dX7_choose_126 (by decide) ?_
        refine lv_iand hx hb dX7_choose_127 ?_
        refine lv_iconst (v := 1) hx hb dX7_choose_128 (by decide) ?_
        refine lv_icmp_ne (tgt := 188) hx hb dX7_choose_129 (by decide) (fun c129 => ?_) (fun c129 => ?_)
        · have hT : sp_X7_choose M a1 = sp_X7_choose_B188 (sp_X7_choose_B107 n) a1 x7 x10 M11 x12 x13 x16 x14 x15 := hT.trans (if_neg c129)
          have hV : vc_X7_choose_B188 (vc_X7_choose_B107 n) a1 x7 x10 M11 x12 x13 x16 x14 x15 := iteF hV c129
          exact J188 x7 x10 M11 x12 x13 x16 x14 x15 _ _ _  hT hV hC (lv_sub hl [1, 2, 3, 4, 5, 6, 7, 8, 9] rfl)
        · have hT : sp_X7_choose M a1 = if (gI M11 27 a1.toNatClampNeg) = 0 then (sp_X7_choose_B166 (sp_X7_choose_B107 n) a1 x7 x10 M11 x12 x13 x14 x15 x16 x17 (sp_X7_distance (sp_X7_nextColumn M11 a1 x17) (sp_X7_nextRow M11 a1 x17) x12 x13)) else (sp_X7_choose_B166 (sp_X7_choose_B107 n) a1 x7 x10 M11 x12 x13 x14 x15 x16 x17 0) := hT.trans (if_pos c129)
          have hV : vp_in a1 5 ∧ (if (gI M11 27 a1.toNatClampNeg) = 0 then (vc_X7_nextColumn M11 a1 x17 ∧ (vc_X7_nextRow M11 a1 x17 ∧ (vc_X7_choose_B166 (vc_X7_choose_B107 n) a1 x7 x10 M11 x12 x13 x14 x15 x16 x17 (sp_X7_distance (sp_X7_nextColumn M11 a1 x17) (sp_X7_nextRow M11 a1 x17) x12 x13)))) else vc_X7_choose_B166 (vc_X7_choose_B107 n) a1 x7 x10 M11 x12 x13 x14 x15 x16 x17 0) := iteT hV c129
          refine lv_aload_n hx hb dX7_choose_132 rfl (lv_at hl 1 rfl) ?_
          refine q_getr (T := TX7) hx hb hB uw_X7 hown hK hC rfl (hL 20 (by decide) (by decide)) rfl 20 (by decide) rfl rfl (hB _ mw_3_64) dX7_choose_133 ?_
          refine lv_iload_n hx hb dX7_choose_136 rfl (lv_at hl 2 rfl) ?_
          obtain ⟨w137, hV⟩ : vp_in a1 5 ∧ (if (gI M11 27 a1.toNatClampNeg) = 0 then (vc_X7_nextColumn M11 a1 x17 ∧ (vc_X7_nextRow M11 a1 x17 ∧ (vc_X7_choose_B166 (vc_X7_choose_B107 n) a1 x7 x10 M11 x12 x13 x14 x15 x16 x17 (sp_X7_distance (sp_X7_nextColumn M11 a1 x17) (sp_X7_nextRow M11 a1 x17) x12 x13)))) else vc_X7_choose_B166 (vc_X7_choose_B107 n) a1 x7 x10 M11 x12 x13 x14 x15 x16 x17 0) := hV
          refine q_zald hx hb hK hC rfl (hL 27 (by decide) (by decide)) rfl w137 rfl dX7_choose_137 ?_
          refine lv_if_eq (tgt := 145) hx hb dX7_choose_138 (by decide) (fun c138 => ?_) (fun c138 => ?_)
          · have hT : sp_X7_choose M a1 = sp_X7_choose_B166 (sp_X7_choose_B107 n) a1 x7 x10 M11 x12 x13 x14 x15 x16 x17 (sp_X7_distance (sp_X7_nextColumn M11 a1 x17) (sp_X7_nextRow M11 a1 x17) x12 x13) := hT.trans (if_pos c138)
            have hV : vc_X7_nextColumn M11 a1 x17 ∧ (vc_X7_nextRow M11 a1 x17 ∧ (vc_X7_choose_B166 (vc_X7_choose_B107 n) a1 x7 x10 M11 x12 x13 x14 x15 x16 x17 (sp_X7_distance (sp_X7_nextColumn M11 a1 x17) (sp_X7_nextRow M11 a1 x17) x12 x13))) := iteT hV c138
            refine lv_aload_n hx hb dX7_choose_145 rfl (lv_at hl 1 rfl) ?_
            refine lv_iload_n hx hb dX7_choose_146 rfl (lv_at hl 2 rfl) ?_
            refine lv_iload hx hb dX7_choose_147 (lv_at hl 0 rfl) ?_
            obtain ⟨v149, hV⟩ : vc_X7_nextColumn M11 a1 x17 ∧ (vc_X7_nextRow M11 a1 x17 ∧ (vc_X7_choose_B166 (vc_X7_choose_B107 n) a1 x7 x10 M11 x12 x13 x14 x15 x16 x17 (sp_X7_distance (sp_X7_nextColumn M11 a1 x17) (sp_X7_nextRow M11 a1 x17) x12 x13))) := hV
            refine q_Ci (q_V (own := "MazeBoardModel") (y := yX7_nextColumn) (As := [.int a1, .int x17]) (rest := []) ⟨hx, hb, hml, hown, hB⟩ hK hE hC (c_X7_nextColumn l D cy ad L H.size (hL.sub (by decide) (by decide)) M11 a1 x17 v149) rfl (hL 20 (by decide) (by decide)) rfl mw_3_188 mw_3_190 mw_0_33 mw_1_7 mw_3_191 rfl yd_X7_nextColumn ⟨rfl, rfl⟩ ⟨Nat.le_of_ble_eq_true rfl, Nat.le_of_ble_eq_true rfl⟩ rfl hl.1 rfl (Nat.le_of_ble_eq_true rfl) dX7_choose_149 ⟨Nat.le_refl _, Nat.le_refl _⟩) hC (fun r N_ H locs hp hC => ?_)
            obtain ⟨hr_, hM_⟩ := hp
            subst hr_
            rw [hM_] at hC
            refine lv_aload_n hx hb dX7_choose_152 rfl (lv_at hl 1 rfl) ?_
            refine lv_iload_n hx hb dX7_choose_153 rfl (lv_at hl 2 rfl) ?_
            refine lv_iload hx hb dX7_choose_154 (lv_at hl 0 rfl) ?_
            obtain ⟨v156, hV⟩ : vc_X7_nextRow M11 a1 x17 ∧ (vc_X7_choose_B166 (vc_X7_choose_B107 n) a1 x7 x10 M11 x12 x13 x14 x15 x16 x17 (sp_X7_distance (sp_X7_nextColumn M11 a1 x17) (sp_X7_nextRow M11 a1 x17) x12 x13)) := hV
            refine q_Ci (q_V (own := "MazeBoardModel") (y := yX7_nextRow) (As := [.int a1, .int x17]) (rest := [.int (sp_X7_nextColumn M11 a1 x17)]) ⟨hx, hb, hml, hown, hB⟩ hK hE hC (c_X7_nextRow l D cy ad L H.size (hL.sub (by decide) (by decide)) M11 a1 x17 v156) rfl (hL 20 (by decide) (by decide)) rfl mw_3_181 mw_3_183 mw_0_32 mw_1_7 mw_3_184 rfl yd_X7_nextRow ⟨rfl, rfl⟩ ⟨Nat.le_of_ble_eq_true rfl, Nat.le_of_ble_eq_true rfl⟩ rfl hl.1 rfl (Nat.le_of_ble_eq_true rfl) dX7_choose_156 ⟨Nat.le_refl _, Nat.le_refl _⟩) hC (fun r N_ H locs hp hC => ?_)
            obtain ⟨hr_, hM_⟩ := hp
            subst hr_
            rw [hM_] at hC
            refine lv_iload hx hb dX7_choose_159 (lv_at hl 5 rfl) ?_
            refine lv_iload hx hb dX7_choose_161 (lv_at hl 6 rfl) ?_
            refine q_Ci (q_S (own := "MazeBoardModel") (y := yX7_distance) (As := [.int (sp_X7_nextColumn M11 a1 x17), .int (sp_X7_nextRow M11 a1 x17), .int x12, .int x13]) (rest := []) ⟨hx, hb, hml, hown, hB⟩ hK hE hC (c_X7_distance l D cy ad L H.size M11 (sp_X7_nextColumn M11 a1 x17) (sp_X7_nextRow M11 a1 x17) x12 x13) mw_3_239 mw_4_0 mw_1_7 mw_4_1 yd_X7_distance ⟨rfl, rfl⟩ ⟨Nat.le_of_ble_eq_true rfl, Nat.le_of_ble_eq_true rfl⟩ rfl hl.1 rfl (Nat.le_of_ble_eq_true rfl) dX7_choose_163 ⟨Nat.le_refl _, Nat.le_refl _⟩) hC (fun r N_ H locs hp hC => ?_)
            obtain ⟨hr_, hM_⟩ := hp
            subst hr_
            rw [hM_] at hC
            exact J166 x7 x10 M11 x12 x13 x14 x15 x16 x17 (sp_X7_distance (sp_X7_nextColumn M11 a1 x17) (sp_X7_nextRow M11 a1 x17) x12 x13) _ _ _  hT hV hC (lv_sub hl [1, 2, 3, 4, 5, 6, 7, 8, 9, 0] rfl)
          · have hT : sp_X7_choose M a1 = sp_X7_choose_B166 (sp_X7_choose_B107 n) a1 x7 x10 M11 x12 x13 x14 x15 x16 x17 0 := hT.trans (if_neg c138)
            have hV : vc_X7_choose_B166 (vc_X7_choose_B107 n) a1 x7 x10 M11 x12 x13 x14 x15 x16 x17 0 := iteF hV c138
            refine lv_iconst (v := 0) hx hb dX7_choose_141 (by decide) ?_
            refine lv_goto (tgt := 166) hx hb dX7_choose_142 (by decide) ?_
            exact J166 x7 x10 M11 x12 x13 x14 x15 x16 x17 0 _ _ _  hT hV hC (lv_sub hl [1, 2, 3, 4, 5, 6, 7, 8, 9, 0] rfl)
  have J80 : ∀ (x7 : Int32) (x10 : Int32) (M11 : Mem) (H : Heap) (locs : List Loc) (ls : Array Slot) (hT : sp_X7_choose M a1 = sp_X7_choose_B80 a1 x7 x10 M11) (hV : vc_X7_choose_B80 a1 x7 x10 M11) (hC : Cx D cy ad R0 L (fA ad L s.heap.size) s M11 H locs) (hl : lv_has ls 12 [(0, .ref (ad 20)), (1, .int a1), (3, .int x7)]), W p l e ({ frames := 3, cells := 0, slots := 0, locals := 66 }) s m ([.ref (ad 20), .int a1] : List Value).toArray below meth c H locs 0 0 (MQ below (va_Qv (fun N => N = sp_X7_choose M a1) (OW D cy ad L s.heap.size) (fA ad L s.heap.size)) ([.ref (ad 20), .int a1] : List Value).toArray s 0 0 (fA ad L s.heap.size)) (F0 m 80 ls [.int x10]) := by
    intro x7 x10 M11 H locs ls  hT hV hC hl
    have hT : sp_X7_choose M a1 = sp_X7_choose_n5 a1 x7 x10 M11 (sp_X7_aim M11 a1 1) := hT
    have hV : vc_X7_aim M11 a1 1 ∧ (vc_X7_choose_n5 a1 x7 x10 M11 (sp_X7_aim M11 a1 1)) := hV
    refine lv_istore (lv' := [(4, .int x10), (0, .ref (ad 20)), (1, .int a1), (3, .int x7)]) hx hb dX7_choose_80 hl (by decide) rfl (fun ls hl => ?_)
    refine lv_aload_n hx hb dX7_choose_82 rfl (lv_at hl 1 rfl) ?_
    refine lv_iload_n hx hb dX7_choose_83 rfl (lv_at hl 2 rfl) ?_
    refine lv_iconst (v := 1) hx hb dX7_choose_84 (by decide) ?_
    obtain ⟨v85, hV⟩ : vc_X7_aim M11 a1 1 ∧ (vc_X7_choose_n5 a1 x7 x10 M11 (sp_X7_aim M11 a1 1)) := hV
    refine q_Ci (q_V (own := "MazeBoardModel") (y := yX7_aim) (As := [.int a1, .int 1]) (rest := []) ⟨hx, hb, hml, hown, hB⟩ hK hE hC (c_X7_aim l D cy ad L H.size (hL.sub (by decide) (by decide)) M11 a1 1 v85) rfl (hL 20 (by decide) (by decide)) rfl mw_3_225 mw_3_227 mw_0_40 mw_1_7 mw_3_228 rfl yd_X7_aim ⟨rfl, rfl⟩ ⟨Nat.le_of_ble_eq_true rfl, Nat.le_of_ble_eq_true rfl⟩ rfl hl.1 rfl (Nat.le_of_ble_eq_true rfl) dX7_choose_85 ⟨Nat.le_refl _, Nat.le_refl _⟩) hC (fun r N_ H locs hp hC => ?_)
    obtain ⟨hr_, hM_⟩ := hp
    subst hr_
    rw [hM_] at hC
    refine lv_topi (fun x12 ex12 => ?_)
    have hT : sp_X7_choose M a1 = sp_X7_choose_n5 a1 x7 x10 M11 x12 := by rw [ex12]; exact hT
    have hV : vc_X7_choose_n5 a1 x7 x10 M11 x12 := by rw [ex12]; exact hV
    refine lv_istore (lv' := [(5, .int x12), (4, .int x10), (0, .ref (ad 20)), (1, .int a1), (3, .int x7)]) hx hb dX7_choose_88 hl (by decide) rfl (fun ls hl => ?_)
    refine lv_aload_n hx hb dX7_choose_90 rfl (lv_at hl 2 rfl) ?_
    refine lv_iload_n hx hb dX7_choose_91 rfl (lv_at hl 3 rfl) ?_
    refine lv_iconst (v := 0) hx hb dX7_choose_92 (by decide) ?_
    obtain ⟨v93, hV⟩ : vc_X7_aim M11 a1 0 ∧ (vc_X7_choose_n4 a1 x7 x10 M11 x12 (sp_X7_aim M11 a1 0)) := hV
    refine q_Ci (q_V (own := "MazeBoardModel") (y := yX7_aim) (As := [.int a1, .int 0]) (rest := []) ⟨hx, hb, hml, hown, hB⟩ hK hE hC (c_X7_aim l D cy ad L H.size (hL.sub (by decide) (by decide)) M11 a1 0 v93) rfl (hL 20 (by decide) (by decide)) rfl mw_3_225 mw_3_227 mw_0_40 mw_1_7 mw_3_228 rfl yd_X7_aim ⟨rfl, rfl⟩ ⟨Nat.le_of_ble_eq_true rfl, Nat.le_of_ble_eq_true rfl⟩ rfl hl.1 rfl (Nat.le_of_ble_eq_true rfl) dX7_choose_93 ⟨Nat.le_refl _, Nat.le_refl _⟩) hC (fun r N_ H locs hp hC => ?_)
    obtain ⟨hr_, hM_⟩ := hp
    subst hr_
    rw [hM_] at hC
    refine lv_topi (fun x13 ex13 => ?_)
    have hT : sp_X7_choose M a1 = sp_X7_choose_n4 a1 x7 x10 M11 x12 x13 := by rw [ex13]; exact hT
    have hV : vc_X7_choose_n4 a1 x7 x10 M11 x12 x13 := by rw [ex13]; exact hV
    refine lv_istore (lv' := [(6, .int x13), (5, .int x12), (4, .int x10), (0, .ref (ad 20)), (1, .int a1), (3, .int x7)]) hx hb dX7_choose_96 hl (by decide) rfl (fun ls hl => ?_)
    refine lv_iconst (v := (-1)) hx hb dX7_choose_98 (by decide) ?_
    refine lv_istore (lv' := [(7, .int (-1)), (6, .int x13), (5, .int x12), (4, .int x10), (0, .ref (ad 20)), (1, .int a1), (3, .int x7)]) hx hb dX7_choose_99 hl (by decide) rfl (fun ls hl => ?_)
    refine lv_iconst (v := 0) hx hb dX7_choose_101 (by decide) ?_
    refine lv_istore (lv' := [(8, .int 0), (7, .int (-1)), (6, .int x13), (5, .int x12), (4, .int x10), (0, .ref (ad 20)), (1, .int a1), (3, .int x7)]) hx hb dX7_choose_102 hl (by decide) rfl (fun ls hl => ?_)
    refine lv_iconst (v := 0) hx hb dX7_choose_104 (by decide) ?_
    refine lv_istore (lv' := [(9, .int 0), (8, .int 0), (7, .int (-1)), (6, .int x13), (5, .int x12), (4, .int x10), (0, .ref (ad 20)), (1, .int a1), (3, .int x7)]) hx hb dX7_choose_105 hl (by decide) rfl (fun ls hl => ?_)
    exact J107 6 x7 x10 M11 x12 x13 (-1) 0 0 _ _ _  hT hV hC (lv_sub hl [6, 7, 8, 5, 4, 3, 2, 1, 0] rfl)
  have J63 : ∀ (x7 : Int32) (H : Heap) (locs : List Loc) (ls : Array Slot) (hT : sp_X7_choose M a1 = sp_X7_choose_B63 M a1 x7) (hV : vc_X7_choose_B63 M a1 x7) (hC : Cx D cy ad R0 L (fA ad L s.heap.size) s M H locs) (hl : lv_has ls 12 [(0, .ref (ad 20)), (1, .int a1), (3, .int x7)]), W p l e ({ frames := 3, cells := 0, slots := 0, locals := 66 }) s m ([.ref (ad 20), .int a1] : List Value).toArray below meth c H locs 0 0 (MQ below (va_Qv (fun N => N = sp_X7_choose M a1) (OW D cy ad L s.heap.size) (fA ad L s.heap.size)) ([.ref (ad 20), .int a1] : List Value).toArray s 0 0 (fA ad L s.heap.size)) (F0 m 63 ls []) := by
    intro x7 H locs ls  hT hV hC hl
    have hT : sp_X7_choose M a1 = if (gI M 27 a1.toNatClampNeg) = 0 then (sp_X7_choose_B80 a1 x7 0 M) else (sp_X7_choose_n6 a1 x7 ((sp_X7_drawn M).2) ((sp_X7_drawn M).1)) := hT
    have hV : vp_in a1 5 ∧ (if (gI M 27 a1.toNatClampNeg) = 0 then vc_X7_choose_B80 a1 x7 0 M else (vc_X7_choose_n6 a1 x7 ((sp_X7_drawn M).2) ((sp_X7_drawn M).1))) := hV
    refine lv_aload_n hx hb dX7_choose_63 rfl (lv_at hl 0 rfl) ?_
    refine q_getr (T := TX7) hx hb hB uw_X7 hown hK hC rfl (hL 20 (by decide) (by decide)) rfl 20 (by decide) rfl rfl (hB _ mw_3_64) dX7_choose_64 ?_
    refine lv_iload_n hx hb dX7_choose_67 rfl (lv_at hl 1 rfl) ?_
    obtain ⟨w68, hV⟩ : vp_in a1 5 ∧ (if (gI M 27 a1.toNatClampNeg) = 0 then vc_X7_choose_B80 a1 x7 0 M else (vc_X7_choose_n6 a1 x7 ((sp_X7_drawn M).2) ((sp_X7_drawn M).1))) := hV
    refine q_zald hx hb hK hC rfl (hL 27 (by decide) (by decide)) rfl w68 rfl dX7_choose_68 ?_
    refine lv_if_eq (tgt := 79) hx hb dX7_choose_69 (by decide) (fun c69 => ?_) (fun c69 => ?_)
    · have hT : sp_X7_choose M a1 = sp_X7_choose_B80 a1 x7 0 M := hT.trans (if_pos c69)
      have hV : vc_X7_choose_B80 a1 x7 0 M := iteT hV c69
      refine lv_iconst (v := 0) hx hb dX7_choose_79 (by decide) ?_
      exact J80 x7 0 M _ _ _  hT hV hC (lv_sub hl [0, 1, 2] rfl)
    · have hT : sp_X7_choose M a1 = sp_X7_choose_n6 a1 x7 ((sp_X7_drawn M).2) ((sp_X7_drawn M).1) := hT.trans (if_neg c69)
      have hV : vc_X7_choose_n6 a1 x7 ((sp_X7_drawn M).2) ((sp_X7_drawn M).1) := iteF hV c69
      refine lv_aload_n hx hb dX7_choose_72 rfl (lv_at hl 0 rfl) ?_
      refine q_Ci (q_V (own := "MazeBoardModel") (y := yX7_drawn) (As := []) (rest := []) ⟨hx, hb, hml, hown, hB⟩ hK hE hC (c_X7_drawn l D cy ad L H.size (hL.sub (by decide) (by decide)) M ) rfl (hL 20 (by decide) (by decide)) rfl mw_3_220 mw_3_222 mw_0_39 mw_1_7 mw_3_223 rfl yd_X7_drawn ⟨rfl, rfl⟩ ⟨Nat.le_of_ble_eq_true rfl, Nat.le_of_ble_eq_true rfl⟩ rfl hl.1 rfl (Nat.le_of_ble_eq_true rfl) dX7_choose_73 ⟨Nat.le_refl _, Nat.le_refl _⟩) hC (fun x9 M8 H locs hp hC => ?_)
      obtain ⟨ex9, eM8⟩ := hp
      have hT : sp_X7_choose M a1 = sp_X7_choose_n6 a1 x7 M8 x9 := by rw [ex9, eM8]; exact hT
      have hV : vc_X7_choose_n6 a1 x7 M8 x9 := by rw [ex9, eM8]; exact hV
      refine lv_goto (tgt := 80) hx hb dX7_choose_76 (by decide) ?_
      exact J80 x7 x9 M8 _ _ _  hT hV hC (lv_sub hl [0, 1, 2] rfl)
  have J16 : ∀ (n : Nat) (x1 : Int32) (x2 : Int32) (x3 : Int32) (H : Heap) (locs : List Loc) (ls : Array Slot) (hT : sp_X7_choose M a1 = sp_X7_choose_B16 n M a1 x1 x2 x3) (hV : vc_X7_choose_B16 n M a1 x1 x2 x3) (hC : Cx D cy ad R0 L (fA ad L s.heap.size) s M H locs) (hl : lv_has ls 12 [(0, .ref (ad 20)), (1, .int a1), (2, .int x1), (3, .int x2), (4, .int x3)]), W p l e ({ frames := 3, cells := 0, slots := 0, locals := 66 }) s m ([.ref (ad 20), .int a1] : List Value).toArray below meth c H locs 0 0 (MQ below (va_Qv (fun N => N = sp_X7_choose M a1) (OW D cy ad L s.heap.size) (fA ad L s.heap.size)) ([.ref (ad 20), .int a1] : List Value).toArray s 0 0 (fA ad L s.heap.size)) (F0 m 16 ls []) := by
    intro n
    induction n with
    | zero => intro x1 x2 x3 H locs ls  hT hV; exact hV.elim
    | succ n ih =>
      have J48 : ∀ (x1 : Int32) (x3 : Int32) (x5 : Int32) (H : Heap) (locs : List Loc) (ls : Array Slot) (hT : sp_X7_choose M a1 = sp_X7_choose_B48 (sp_X7_choose_B16 n) M a1 x1 x3 x5) (hV : vc_X7_choose_B48 (vc_X7_choose_B16 n) M a1 x1 x3 x5) (hC : Cx D cy ad R0 L (fA ad L s.heap.size) s M H locs) (hl : lv_has ls 12 [(0, .ref (ad 20)), (1, .int a1), (2, .int x1), (4, .int x3)]), W p l e ({ frames := 3, cells := 0, slots := 0, locals := 66 }) s m ([.ref (ad 20), .int a1] : List Value).toArray below meth c H locs 0 0 (MQ below (va_Qv (fun N => N = sp_X7_choose M a1) (OW D cy ad L s.heap.size) (fA ad L s.heap.size)) ([.ref (ad 20), .int a1] : List Value).toArray s 0 0 (fA ad L s.heap.size)) (F0 m 48 ls [.int x5]) := by
        intro x1 x3 x5 H locs ls  hT hV hC hl
        have hT : sp_X7_choose M a1 = sp_X7_choose_n7 (sp_X7_choose_B16 n) M a1 x1 x5 (x3 + 1) := hT
        have hV : vc_X7_choose_n7 (vc_X7_choose_B16 n) M a1 x1 x5 (x3 + 1) := hV
        refine lv_istore_n (lv' := [(3, .int x5), (0, .ref (ad 20)), (1, .int a1), (2, .int x1), (4, .int x3)]) hx hb dX7_choose_48 rfl hl (by decide) rfl (fun ls hl => ?_)
        obtain ⟨x6, ex6⟩ : ∃ z : Int32, z = x3 + 1 := ⟨_, rfl⟩
        have hT : sp_X7_choose M a1 = sp_X7_choose_n7 (sp_X7_choose_B16 n) M a1 x1 x5 x6 := by rw [ex6]; exact hT
        have hV : vc_X7_choose_n7 (vc_X7_choose_B16 n) M a1 x1 x5 x6 := by rw [ex6]; exact hV
        refine lv_iinc (v := x6) (lv' := [(4, .int x6), (3, .int x5), (0, .ref (ad 20)), (1, .int a1), (2, .int x1)]) hx hb dX7_choose_49 hl (k := 4) rfl (by rw [ex6]; rfl) (by decide) rfl (fun ls hl => ?_)
        refine lv_goto (tgt := 16) hx hb dX7_choose_52 (by decide) ?_
        exact ih x1 x5 x6 _ _ _  hT hV hC (lv_sub hl [2, 3, 4, 1, 0] rfl)
      have J47 : ∀ (x1 : Int32) (x2 : Int32) (x3 : Int32) (H : Heap) (locs : List Loc) (ls : Array Slot) (hT : sp_X7_choose M a1 = sp_X7_choose_B47 (sp_X7_choose_B16 n) M a1 x1 x2 x3) (hV : vc_X7_choose_B47 (vc_X7_choose_B16 n) M a1 x1 x2 x3) (hC : Cx D cy ad R0 L (fA ad L s.heap.size) s M H locs) (hl : lv_has ls 12 [(0, .ref (ad 20)), (1, .int a1), (2, .int x1), (3, .int x2), (4, .int x3)]), W p l e ({ frames := 3, cells := 0, slots := 0, locals := 66 }) s m ([.ref (ad 20), .int a1] : List Value).toArray below meth c H locs 0 0 (MQ below (va_Qv (fun N => N = sp_X7_choose M a1) (OW D cy ad L s.heap.size) (fA ad L s.heap.size)) ([.ref (ad 20), .int a1] : List Value).toArray s 0 0 (fA ad L s.heap.size)) (F0 m 47 ls []) := by
        intro x1 x2 x3 H locs ls  hT hV hC hl
        have hT : sp_X7_choose M a1 = sp_X7_choose_B48 (sp_X7_choose_B16 n) M a1 x1 x3 x2 := hT
        have hV : vc_X7_choose_B48 (vc_X7_choose_B16 n) M a1 x1 x3 x2 := hV
        refine lv_iload_n hx hb dX7_choose_47 rfl (lv_at hl 3 rfl) ?_
        exact J48 x1 x3 x2 _ _ _  hT hV hC (lv_sub hl [0, 1, 2, 4] rfl)
      intro x1 x2 x3 H locs ls  hT hV hC hl
      have hT : sp_X7_choose M a1 = if 4 ≤ x3 then (if x2 = 0 then (sp_X7_choose_n8 M a1 (1 <<< (x1 &&& 31))) else (sp_X7_choose_B63 M a1 x2)) else (if x3 = x1 then (sp_X7_choose_B47 (sp_X7_choose_B16 n) M a1 x1 x2 x3) else (if (sp_X7_open M a1 x3) = 0 then (sp_X7_choose_B47 (sp_X7_choose_B16 n) M a1 x1 x2 x3) else (sp_X7_choose_B48 (sp_X7_choose_B16 n) M a1 x1 x3 (x2 ||| (1 <<< (x3 &&& 31)))))) := hT
      have hV : if 4 ≤ x3 then (if x2 = 0 then (vc_X7_choose_n8 M a1 (1 <<< (x1 &&& 31))) else vc_X7_choose_B63 M a1 x2) else (if x3 = x1 then vc_X7_choose_B47 (vc_X7_choose_B16 n) M a1 x1 x2 x3 else (vc_X7_open M a1 x3 ∧ (if (sp_X7_open M a1 x3) = 0 then vc_X7_choose_B47 (vc_X7_choose_B16 n) M a1 x1 x2 x3 else (vc_X7_choose_B48 (vc_X7_choose_B16 n) M a1 x1 x3 (x2 ||| (1 <<< (x3 &&& 31))))))) := hV
      refine lv_iload hx hb dX7_choose_16 (lv_at hl 4 rfl) ?_
      refine lv_iconst (v := 4) hx hb dX7_choose_18 (by decide) ?_
      refine lv_icmp_ge (tgt := 55) hx hb dX7_choose_19 (by decide) (fun c19 => ?_) (fun c19 => ?_)
      · have hT : sp_X7_choose M a1 = if x2 = 0 then (sp_X7_choose_n8 M a1 (1 <<< (x1 &&& 31))) else (sp_X7_choose_B63 M a1 x2) := hT.trans (if_pos c19)
        have hV : if x2 = 0 then (vc_X7_choose_n8 M a1 (1 <<< (x1 &&& 31))) else vc_X7_choose_B63 M a1 x2 := iteT hV c19
        refine lv_iload_n hx hb dX7_choose_55 rfl (lv_at hl 3 rfl) ?_
        refine lv_if_ne (tgt := 63) hx hb dX7_choose_56 (by decide) (fun c56 => ?_) (fun c56 => ?_)
        · have hT : sp_X7_choose M a1 = sp_X7_choose_B63 M a1 x2 := hT.trans (if_neg c56)
          have hV : vc_X7_choose_B63 M a1 x2 := iteF hV c56
          exact J63 x2 _ _ _  hT hV hC (lv_sub hl [0, 1, 3] rfl)
        · have hT : sp_X7_choose M a1 = sp_X7_choose_n8 M a1 (1 <<< (x1 &&& 31)) := hT.trans (if_pos c56)
          have hV : vc_X7_choose_n8 M a1 (1 <<< (x1 &&& 31)) := iteT hV c56
          refine lv_iconst (v := 1) hx hb dX7_choose_59 (by decide) ?_
          refine lv_iload_n hx hb dX7_choose_60 rfl (lv_at hl 2 rfl) ?_
          refine lv_ishl hx hb dX7_choose_61 ?_
          refine lv_topi (fun x4 ex4 => ?_)
          have hT : sp_X7_choose M a1 = sp_X7_choose_n8 M a1 x4 := by rw [ex4]; exact hT
          have hV : vc_X7_choose_n8 M a1 x4 := by rw [ex4]; exact hV
          refine lv_istore_n (lv' := [(3, .int x4), (0, .ref (ad 20)), (1, .int a1), (2, .int x1), (4, .int x3)]) hx hb dX7_choose_62 rfl hl (by decide) rfl (fun ls hl => ?_)
          exact J63 x4 _ _ _  hT hV hC (lv_sub hl [1, 2, 0] rfl)
      · have hT : sp_X7_choose M a1 = if x3 = x1 then (sp_X7_choose_B47 (sp_X7_choose_B16 n) M a1 x1 x2 x3) else (if (sp_X7_open M a1 x3) = 0 then (sp_X7_choose_B47 (sp_X7_choose_B16 n) M a1 x1 x2 x3) else (sp_X7_choose_B48 (sp_X7_choose_B16 n) M a1 x1 x3 (x2 ||| (1 <<< (x3 &&& 31))))) := hT.trans (if_neg c19)
        have hV : if x3 = x1 then vc_X7_choose_B47 (vc_X7_choose_B16 n) M a1 x1 x2 x3 else (vc_X7_open M a1 x3 ∧ (if (sp_X7_open M a1 x3) = 0 then vc_X7_choose_B47 (vc_X7_choose_B16 n) M a1 x1 x2 x3 else (vc_X7_choose_B48 (vc_X7_choose_B16 n) M a1 x1 x3 (x2 ||| (1 <<< (x3 &&& 31)))))) := iteF hV c19
        refine lv_iload hx hb dX7_choose_22 (lv_at hl 4 rfl) ?_
        refine lv_iload_n hx hb dX7_choose_24 rfl (lv_at hl 2 rfl) ?_
        refine lv_icmp_eq (tgt := 47) hx hb dX7_choose_25 (by decide) (fun c25 => ?_) (fun c25 => ?_)
        · have hT : sp_X7_choose M a1 = sp_X7_choose_B47 (sp_X7_choose_B16 n) M a1 x1 x2 x3 := hT.trans (if_pos c25)
          have hV : vc_X7_choose_B47 (vc_X7_choose_B16 n) M a1 x1 x2 x3 := iteT hV c25
          exact J47 x1 x2 x3 _ _ _  hT hV hC (lv_sub hl [0, 1, 2, 3, 4] rfl)
        · have hT : sp_X7_choose M a1 = if (sp_X7_open M a1 x3) = 0 then (sp_X7_choose_B47 (sp_X7_choose_B16 n) M a1 x1 x2 x3) else (sp_X7_choose_B48 (sp_X7_choose_B16 n) M a1 x1 x3 (x2 ||| (1 <<< (x3 &&& 31)))) := hT.trans (if_neg c25)
          have hV : vc_X7_open M a1 x3 ∧ (if (sp_X7_open M a1 x3) = 0 then vc_X7_choose_B47 (vc_X7_choose_B16 n) M a1 x1 x2 x3 else (vc_X7_choose_B48 (vc_X7_choose_B16 n) M a1 x1 x3 (x2 ||| (1 <<< (x3 &&& 31))))) := iteF hV c25
          refine lv_aload_n hx hb dX7_choose_28 rfl (lv_at hl 0 rfl) ?_
          refine lv_iload_n hx hb dX7_choose_29 rfl (lv_at hl 1 rfl) ?_
          refine lv_iload hx hb dX7_choose_30 (lv_at hl 4 rfl) ?_
          obtain ⟨v32, hV⟩ : vc_X7_open M a1 x3 ∧ (if (sp_X7_open M a1 x3) = 0 then vc_X7_choose_B47 (vc_X7_choose_B16 n) M a1 x1 x2 x3 else (vc_X7_choose_B48 (vc_X7_choose_B16 n) M a1 x1 x3 (x2 ||| (1 <<< (x3 &&& 31))))) := hV
          refine q_Ci (q_V (own := "MazeBoardModel") (y := yX7_open) (As := [.int a1, .int x3]) (rest := []) ⟨hx, hb, hml, hown, hB⟩ hK hE hC (c_X7_open l D cy ad L H.size (hL.sub (by decide) (by decide)) M a1 x3 v32) rfl (hL 20 (by decide) (by decide)) rfl mw_3_177 mw_3_179 mw_0_31 mw_1_7 mw_3_180 rfl yd_X7_open ⟨rfl, rfl⟩ ⟨Nat.le_of_ble_eq_true rfl, Nat.le_of_ble_eq_true rfl⟩ rfl hl.1 rfl (Nat.le_of_ble_eq_true rfl) dX7_choose_32 ⟨Nat.le_refl _, Nat.le_refl _⟩) hC (fun r N_ H locs hp hC => ?_)
          obtain ⟨hr_, hM_⟩ := hp
          subst hr_
          rw [hM_] at hC
          refine lv_if_eq (tgt := 47) hx hb dX7_choose_35 (by decide) (fun c35 => ?_) (fun c35 => ?_)
          · have hT : sp_X7_choose M a1 = sp_X7_choose_B47 (sp_X7_choose_B16 n) M a1 x1 x2 x3 := hT.trans (if_pos c35)
            have hV : vc_X7_choose_B47 (vc_X7_choose_B16 n) M a1 x1 x2 x3 := iteT hV c35
            exact J47 x1 x2 x3 _ _ _  hT hV hC (lv_sub hl [0, 1, 2, 3, 4] rfl)
          · have hT : sp_X7_choose M a1 = sp_X7_choose_B48 (sp_X7_choose_B16 n) M a1 x1 x3 (x2 ||| (1 <<< (x3 &&& 31))) := hT.trans (if_neg c35)
            have hV : vc_X7_choose_B48 (vc_X7_choose_B16 n) M a1 x1 x3 (x2 ||| (1 <<< (x3 &&& 31))) := iteF hV c35
            refine lv_iload_n hx hb dX7_choose_38 rfl (lv_at hl 3 rfl) ?_
            refine lv_iconst (v := 1) hx hb dX7_choose_39 (by decide) ?_
            refine lv_iload hx hb dX7_choose_40 (lv_at hl 4 rfl) ?_
            refine lv_ishl hx hb dX7_choose_42 ?_
            refine lv_ior hx hb dX7_choose_43 ?_
            refine lv_goto (tgt := 48) hx hb dX7_choose_44 (by decide) ?_
            exact J48 x1 x3 (x2 ||| (1 <<< (x3 &&& 31))) _ _ _  hT hV hC (lv_sub hl [0, 1, 2, 4] rfl)
  have hT : sp_X7_choose M a1 = sp_X7_choose_n9 M a1 (((gI M 25 a1.toNatClampNeg) + 2) &&& 3) := rfl
  have hV : vp_in a1 5 ∧ (vc_X7_choose_n9 M a1 (((gI M 25 a1.toNatClampNeg) + 2) &&& 3)) := hV
  refine lv_aload_n hx hb dX7_choose_0 rfl (lv_at hl 0 rfl) ?_
  refine q_getr (T := TX7) hx hb hB uw_X7 hown hK hC rfl (hL 20 (by decide) (by decide)) rfl 18 (by decide) rfl rfl (hB _ mw_3_62) dX7_choose_1 ?_
  refine lv_iload_n hx hb dX7_choose_4 rfl (lv_at hl 1 rfl) ?_
  obtain ⟨w5, hV⟩ : vp_in a1 5 ∧ (vc_X7_choose_n9 M a1 (((gI M 25 a1.toNatClampNeg) + 2) &&& 3)) := hV
  refine q_iald hx hb hK hC rfl (hL 25 (by decide) (by decide)) rfl w5 rfl dX7_choose_5 ?_
  refine lv_iconst (v := 2) hx hb dX7_choose_6 (by decide) ?_
  refine lv_iadd hx hb dX7_choose_7 ?_
  refine lv_iconst (v := 3) hx hb dX7_choose_8 (by decide) ?_
  refine lv_iand hx hb dX7_choose_9 ?_
  refine lv_topi (fun x1 ex1 => ?_)
  have hT : sp_X7_choose M a1 = sp_X7_choose_n9 M a1 x1 := by rw [ex1]; exact hT
  have hV : vc_X7_choose_n9 M a1 x1 := by rw [ex1]; exact hV
  refine lv_istore_n (lv' := [(2, .int x1), (0, .ref (ad 20)), (1, .int a1)]) hx hb dX7_choose_10 rfl hl (by decide) rfl (fun ls hl => ?_)
  refine lv_iconst (v := 0) hx hb dX7_choose_11 (by decide) ?_
  refine lv_istore_n (lv' := [(3, .int 0), (2, .int x1), (0, .ref (ad 20)), (1, .int a1)]) hx hb dX7_choose_12 rfl hl (by decide) rfl (fun ls hl => ?_)
  refine lv_iconst (v := 0) hx hb dX7_choose_13 (by decide) ?_
  refine lv_istore (lv' := [(4, .int 0), (3, .int 0), (2, .int x1), (0, .ref (ad 20)), (1, .int a1)]) hx hb dX7_choose_14 hl (by decide) rfl (fun ls hl => ?_)
  exact J16 6 x1 0 0 _ _ _  hT hV hC (lv_sub hl [3, 4, 2, 1, 0] rfl)
set_option maxHeartbeats 4000000 in
set_option maxRecDepth 100000 in
theorem c_X7_hunter (l : Launch) (D : va_G) (cy ad : Nat → Nat) (L : List Nat) (sz : Nat) (hL : lr 20 34 L) (M : Mem) (a1 : Int32) (hV : vc_X7_hunter M a1) : Met l yX7_hunter (Cond.code yX7_hunter cX7_hunter 4 (none) :: BG) ({ frames := 4, cells := 0, slots := 0, locals := 97 }) (va_Pc [.ref (ad 20), .int a1] (PW D cy ad L M sz)) (va_Qv (fun N => N = sp_X7_hunter M a1) (OW D cy ad L sz) (fA ad L sz)) 0 0 (fA ad L sz) := by
  refine q_start (by decide) (Nat.le_of_ble_eq_true rfl) (fun p e s m below meth c H locs ls hsz hx hb hr hlocks hml hown hB hK hE hC hl => ?_)
  subst hsz
  have hown : s.vm.findClass "MazeBoardModel" = some m.cls := hown
  have hl : lv_has ls 4 [(0, .ref (ad 20)), (1, .int a1)] := hl
  have J154 : ∀ (M13 : Mem) (H : Heap) (locs : List Loc) (ls : Array Slot) (hT : sp_X7_hunter M a1 = sp_X7_hunter_B154 M13) (hC : Cx D cy ad R0 L (fA ad L s.heap.size) s M13 H locs) (hl : lv_has ls 4 []), W p l e ({ frames := 4, cells := 0, slots := 0, locals := 97 }) s m ([.ref (ad 20), .int a1] : List Value).toArray below meth c H locs 0 0 (MQ below (va_Qv (fun N => N = sp_X7_hunter M a1) (OW D cy ad L s.heap.size) (fA ad L s.heap.size)) ([.ref (ad 20), .int a1] : List Value).toArray s 0 0 (fA ad L s.heap.size)) (F0 m 154 ls []) := by
    intro M13 H locs ls  hT hC hl
    have hT : sp_X7_hunter M a1 = M13 := hT
    exact q_retv hx hb hr hlocks hC hT.symm dX7_hunter_154
  have J149 : ∀ (M11 : Mem) (H : Heap) (locs : List Loc) (ls : Array Slot) (hT : sp_X7_hunter M a1 = sp_X7_hunter_B149 a1 M11) (hV : vc_X7_hunter_B149 a1 M11) (hC : Cx D cy ad R0 L (fA ad L s.heap.size) s M11 H locs) (hl : lv_has ls 4 [(0, .ref (ad 20)), (1, .int a1)]), W p l e ({ frames := 4, cells := 0, slots := 0, locals := 97 }) s m ([.ref (ad 20), .int a1] : List Value).toArray below meth c H locs 0 0 (MQ below (va_Qv (fun N => N = sp_X7_hunter M a1) (OW D cy ad L s.heap.size) (fA ad L s.heap.size)) ([.ref (ad 20), .int a1] : List Value).toArray s 0 0 (fA ad L s.heap.size)) (F0 m 149 ls []) := by
    intro M11 H locs ls  hT hV hC hl
    have hT : sp_X7_hunter M a1 = sp_X7_hunter_n1 (sp_X7_choose M11 a1) := hT
    have hV : vc_X7_choose M11 a1 := hV
    refine lv_aload_n hx hb dX7_hunter_149 rfl (lv_at hl 0 rfl) ?_
    refine lv_iload_n hx hb dX7_hunter_150 rfl (lv_at hl 1 rfl) ?_
    have v151 : vc_X7_choose M11 a1 := hV
    refine q_Cv (q_V (own := "MazeBoardModel") (y := yX7_choose) (As := [.int a1]) (rest := []) ⟨hx, hb, hml, hown, hB⟩ hK hE hC (c_X7_choose l D cy ad L H.size (hL.sub (by decide) (by decide)) M11 a1 v151) rfl (hL 20 (by decide) (by decide)) rfl mw_3_216 mw_3_218 mw_0_38 mw_1_7 mw_3_219 rfl yd_X7_choose ⟨rfl, rfl⟩ ⟨Nat.le_of_ble_eq_true rfl, Nat.le_of_ble_eq_true rfl⟩ rfl hl.1 rfl (Nat.le_of_ble_eq_true rfl) dX7_hunter_151 ⟨Nat.le_refl _, Nat.le_refl _⟩) hC (fun M12 H locs eM12 hC => ?_)
    have hT : sp_X7_hunter M a1 = sp_X7_hunter_n1 M12 := by rw [eM12]; exact hT
    exact J154 M12 _ _ _  hT hC (lv_sub hl [] rfl)
  have J89 : ∀ (f6 : UInt32) (H : Heap) (locs : List Loc) (ls : Array Slot) (hT : sp_X7_hunter M a1 = sp_X7_hunter_B89 M a1 f6) (hV : vc_X7_hunter_B89 M a1 f6) (hC : Cx D cy ad R0 L (fA ad L s.heap.size) s M H locs) (hl : lv_has ls 4 [(0, .ref (ad 20)), (1, .int a1)]), W p l e ({ frames := 4, cells := 0, slots := 0, locals := 97 }) s m ([.ref (ad 20), .int a1] : List Value).toArray below meth c H locs 0 0 (MQ below (va_Qv (fun N => N = sp_X7_hunter M a1) (OW D cy ad L s.heap.size) (fA ad L s.heap.size)) ([.ref (ad 20), .int a1] : List Value).toArray s 0 0 (fA ad L s.heap.size)) (F0 m 89 ls [.float f6, .float (gF M 26 a1.toNatClampNeg), .int a1, .ref (ad 26)]) := by
    intro f6 H locs ls  hT hV hC hl
    have hT : sp_X7_hunter M a1 = sp_X7_hunter_n5 a1 (wF M 26 a1.toNatClampNeg (FP.fadd (gF M 26 a1.toNatClampNeg) f6)) := hT
    have hV : (vf_n32 (FP.fadd (gF M 26 a1.toNatClampNeg) f6)) ∧ (vp_in a1 5 ∧ (vc_X7_hunter_n5 a1 (wF M 26 a1.toNatClampNeg (FP.fadd (gF M 26 a1.toNatClampNeg) f6)))) := hV
    obtain ⟨w89, hV⟩ : (vf_n32 (FP.fadd (gF M 26 a1.toNatClampNeg) f6)) ∧ (vp_in a1 5 ∧ (vc_X7_hunter_n5 a1 (wF M 26 a1.toNatClampNeg (FP.fadd (gF M 26 a1.toNatClampNeg) f6)))) := hV
    refine lv_fadd hx hb dX7_hunter_89 w89 ?_
    obtain ⟨w90, hV⟩ : vp_in a1 5 ∧ (vc_X7_hunter_n5 a1 (wF M 26 a1.toNatClampNeg (FP.fadd (gF M 26 a1.toNatClampNeg) f6))) := hV
    refine q_fast hx hb hK hC rfl (hL 26 (by decide) (by decide)) rfl w90 rfl dX7_hunter_90 (fun H locs hC => ?_)
    obtain ⟨M7, eM7⟩ : ∃ z : Mem, z = wF M 26 a1.toNatClampNeg (FP.fadd (gF M 26 a1.toNatClampNeg) f6) := ⟨_, rfl⟩
    rw [← eM7] at hC
    have hT : sp_X7_hunter M a1 = sp_X7_hunter_n5 a1 M7 := by rw [eM7]; exact hT
    have hV : vc_X7_hunter_n5 a1 M7 := by rw [eM7]; exact hV
    refine lv_aload_n hx hb dX7_hunter_91 rfl (lv_at hl 0 rfl) ?_
    refine q_getr (T := TX7) hx hb hB uw_X7 hown hK hC rfl (hL 20 (by decide) (by decide)) rfl 19 (by decide) rfl rfl (hB _ mw_3_63) dX7_hunter_92 ?_
    refine lv_iload_n hx hb dX7_hunter_95 rfl (lv_at hl 1 rfl) ?_
    obtain ⟨w96, hV⟩ : vp_in a1 5 ∧ (if (Op.cmpValue (FP.fcmp (gF M7 26 a1.toNatClampNeg) FP.fconst1) .l) < 0 then True else (vc_X7_step M7 a1 ∧ (vc_X7_hunter_n4 a1 (sp_X7_step M7 a1)))) := hV
    refine q_fald hx hb hK hC rfl (hL 26 (by decide) (by decide)) rfl w96 rfl dX7_hunter_96 ?_
    refine lv_fconst1 hx hb dX7_hunter_97 ?_
    refine lv_fcmp hx hb dX7_hunter_98 ?_
    refine lv_if_lt (tgt := 154) hx hb dX7_hunter_99 (by decide) (fun c99 => ?_) (fun c99 => ?_)
    · have hT : sp_X7_hunter M a1 = sp_X7_hunter_B154 M7 := hT.trans (if_pos c99)
      exact J154 M7 _ _ _  hT hC (lv_sub hl [] rfl)
    · have hT : sp_X7_hunter M a1 = sp_X7_hunter_n4 a1 (sp_X7_step M7 a1) := hT.trans (if_neg c99)
      have hV : vc_X7_step M7 a1 ∧ (vc_X7_hunter_n4 a1 (sp_X7_step M7 a1)) := iteF hV c99
      refine lv_aload_n hx hb dX7_hunter_102 rfl (lv_at hl 0 rfl) ?_
      refine lv_iload_n hx hb dX7_hunter_103 rfl (lv_at hl 1 rfl) ?_
      obtain ⟨v104, hV⟩ : vc_X7_step M7 a1 ∧ (vc_X7_hunter_n4 a1 (sp_X7_step M7 a1)) := hV
      refine q_Cv (q_V (own := "MazeBoardModel") (y := yX7_step) (As := [.int a1]) (rest := []) ⟨hx, hb, hml, hown, hB⟩ hK hE hC (c_X7_step l D cy ad L H.size (hL.sub (by decide) (by decide)) M7 a1 v104) rfl (hL 20 (by decide) (by decide)) rfl mw_3_200 mw_3_202 mw_0_34 mw_1_7 mw_3_203 rfl yd_X7_step ⟨rfl, rfl⟩ ⟨Nat.le_of_ble_eq_true rfl, Nat.le_of_ble_eq_true rfl⟩ rfl hl.1 rfl (Nat.le_of_ble_eq_true rfl) dX7_hunter_104 ⟨Nat.le_refl _, Nat.le_refl _⟩) hC (fun M8 H locs eM8 hC => ?_)
      have hT : sp_X7_hunter M a1 = sp_X7_hunter_n4 a1 M8 := by rw [eM8]; exact hT
      have hV : vc_X7_hunter_n4 a1 M8 := by rw [eM8]; exact hV
      refine lv_aload_n hx hb dX7_hunter_107 rfl (lv_at hl 0 rfl) ?_
      refine q_getr (T := TX7) hx hb hB uw_X7 hown hK hC rfl (hL 20 (by decide) (by decide)) rfl 19 (by decide) rfl rfl (hB _ mw_3_63) dX7_hunter_108 ?_
      refine lv_iload_n hx hb dX7_hunter_111 rfl (lv_at hl 1 rfl) ?_
      refine lv_aload_n hx hb dX7_hunter_112 rfl (lv_at hl 0 rfl) ?_
      refine q_getr (T := TX7) hx hb hB uw_X7 hown hK hC rfl (hL 20 (by decide) (by decide)) rfl 19 (by decide) rfl rfl (hB _ mw_3_63) dX7_hunter_113 ?_
      refine lv_iload_n hx hb dX7_hunter_116 rfl (lv_at hl 1 rfl) ?_
      obtain ⟨w117, hV⟩ : vp_in a1 5 ∧ ((vf_n32 (FP.fsub (gF M8 26 a1.toNatClampNeg) FP.fconst1)) ∧ (vp_in a1 5 ∧ (vc_X7_hunter_n3 a1 (wF M8 26 a1.toNatClampNeg (FP.fsub (gF M8 26 a1.toNatClampNeg) FP.fconst1))))) := hV
      refine q_fald hx hb hK hC rfl (hL 26 (by decide) (by decide)) rfl w117 rfl dX7_hunter_117 ?_
      refine lv_fconst1 hx hb dX7_hunter_118 ?_
      obtain ⟨w119, hV⟩ : (vf_n32 (FP.fsub (gF M8 26 a1.toNatClampNeg) FP.fconst1)) ∧ (vp_in a1 5 ∧ (vc_X7_hunter_n3 a1 (wF M8 26 a1.toNatClampNeg (FP.fsub (gF M8 26 a1.toNatClampNeg) FP.fconst1)))) := hV
      refine lv_fsub hx hb dX7_hunter_119 w119 ?_
      obtain ⟨w120, hV⟩ : vp_in a1 5 ∧ (vc_X7_hunter_n3 a1 (wF M8 26 a1.toNatClampNeg (FP.fsub (gF M8 26 a1.toNatClampNeg) FP.fconst1))) := hV
      refine q_fast hx hb hK hC rfl (hL 26 (by decide) (by decide)) rfl w120 rfl dX7_hunter_120 (fun H locs hC => ?_)
      obtain ⟨M9, eM9⟩ : ∃ z : Mem, z = wF M8 26 a1.toNatClampNeg (FP.fsub (gF M8 26 a1.toNatClampNeg) FP.fconst1) := ⟨_, rfl⟩
      rw [← eM9] at hC
      have hT : sp_X7_hunter M a1 = sp_X7_hunter_n3 a1 M9 := by rw [eM9]; exact hT
      have hV : vc_X7_hunter_n3 a1 M9 := by rw [eM9]; exact hV
      refine lv_aload_n hx hb dX7_hunter_121 rfl (lv_at hl 0 rfl) ?_
      refine q_getr (T := TX7) hx hb hB uw_X7 hown hK hC rfl (hL 20 (by decide) (by decide)) rfl 16 (by decide) rfl rfl (hB _ mw_3_60) dX7_hunter_122 ?_
      refine lv_iload_n hx hb dX7_hunter_125 rfl (lv_at hl 1 rfl) ?_
      obtain ⟨w126, hV⟩ : vp_in a1 5 ∧ (if (gI M9 23 a1.toNatClampNeg) = 6 then (vp_in a1 5 ∧ (if (gI M9 24 a1.toNatClampNeg) = 2 then (vp_in a1 5 ∧ (vc_X7_hunter_n2 a1 (wI M9 29 a1.toNatClampNeg 0))) else vc_X7_hunter_B149 a1 M9)) else vc_X7_hunter_B149 a1 M9) := hV
      refine q_iald hx hb hK hC rfl (hL 23 (by decide) (by decide)) rfl w126 rfl dX7_hunter_126 ?_
      refine lv_bipush (v := 6) hx hb dX7_hunter_127 (by decide) ?_
      refine lv_icmp_ne (tgt := 149) hx hb dX7_hunter_129 (by decide) (fun c129 => ?_) (fun c129 => ?_)
      · have hT : sp_X7_hunter M a1 = sp_X7_hunter_B149 a1 M9 := hT.trans (if_neg c129)
        have hV : vc_X7_hunter_B149 a1 M9 := iteF hV c129
        exact J149 M9 _ _ _  hT hV hC (lv_sub hl [0, 1] rfl)
      · have hT : sp_X7_hunter M a1 = if (gI M9 24 a1.toNatClampNeg) = 2 then (sp_X7_hunter_n2 a1 (wI M9 29 a1.toNatClampNeg 0)) else (sp_X7_hunter_B149 a1 M9) := hT.trans (if_pos c129)
        have hV : vp_in a1 5 ∧ (if (gI M9 24 a1.toNatClampNeg) = 2 then (vp_in a1 5 ∧ (vc_X7_hunter_n2 a1 (wI M9 29 a1.toNatClampNeg 0))) else vc_X7_hunter_B149 a1 M9) := iteT hV c129
        refine lv_aload_n hx hb dX7_hunter_132 rfl (lv_at hl 0 rfl) ?_
        refine q_getr (T := TX7) hx hb hB uw_X7 hown hK hC rfl (hL 20 (by decide) (by decide)) rfl 17 (by decide) rfl rfl (hB _ mw_3_61) dX7_hunter_133 ?_
        refine lv_iload_n hx hb dX7_hunter_136 rfl (lv_at hl 1 rfl) ?_
        obtain ⟨w137, hV⟩ : vp_in a1 5 ∧ (if (gI M9 24 a1.toNatClampNeg) = 2 then (vp_in a1 5 ∧ (vc_X7_hunter_n2 a1 (wI M9 29 a1.toNatClampNeg 0))) else vc_X7_hunter_B149 a1 M9) := hV
        refine q_iald hx hb hK hC rfl (hL 24 (by decide) (by decide)) rfl w137 rfl dX7_hunter_137 ?_
        refine lv_iconst (v := 2) hx hb dX7_hunter_138 (by decide) ?_
        refine lv_icmp_ne (tgt := 149) hx hb dX7_hunter_139 (by decide) (fun c139 => ?_) (fun c139 => ?_)
        · have hT : sp_X7_hunter M a1 = sp_X7_hunter_B149 a1 M9 := hT.trans (if_neg c139)
          have hV : vc_X7_hunter_B149 a1 M9 := iteF hV c139
          exact J149 M9 _ _ _  hT hV hC (lv_sub hl [0, 1] rfl)
        · have hT : sp_X7_hunter M a1 = sp_X7_hunter_n2 a1 (wI M9 29 a1.toNatClampNeg 0) := hT.trans (if_pos c139)
          have hV : vp_in a1 5 ∧ (vc_X7_hunter_n2 a1 (wI M9 29 a1.toNatClampNeg 0)) := iteT hV c139
          refine lv_aload_n hx hb dX7_hunter_142 rfl (lv_at hl 0 rfl) ?_
          refine q_getr (T := TX7) hx hb hB uw_X7 hown hK hC rfl (hL 20 (by decide) (by decide)) rfl 22 (by decide) rfl rfl (hB _ mw_3_66) dX7_hunter_143 ?_
          refine lv_iload_n hx hb dX7_hunter_146 rfl (lv_at hl 1 rfl) ?_
          refine lv_iconst (v := 0) hx hb dX7_hunter_147 (by decide) ?_
          obtain ⟨w148, hV⟩ : vp_in a1 5 ∧ (vc_X7_hunter_n2 a1 (wI M9 29 a1.toNatClampNeg 0)) := hV
          refine q_zast (v := 0) hx hb hK hC rfl (hL 29 (by decide) (by decide)) rfl w148 rfl (by decide) dX7_hunter_148 (fun H locs hC => ?_)
          obtain ⟨M10, eM10⟩ : ∃ z : Mem, z = wI M9 29 a1.toNatClampNeg 0 := ⟨_, rfl⟩
          rw [← eM10] at hC
          have hT : sp_X7_hunter M a1 = sp_X7_hunter_n2 a1 M10 := by rw [eM10]; exact hT
          have hV : vc_X7_hunter_n2 a1 M10 := by rw [eM10]; exact hV
          exact J149 M10 _ _ _  hT hV hC (lv_sub hl [0, 1] rfl)
  have J50 : ∀ (x4 : Int32) (H : Heap) (locs : List Loc) (ls : Array Slot) (hT : sp_X7_hunter M a1 = sp_X7_hunter_B50 M a1 x4) (hV : vc_X7_hunter_B50 M a1 x4) (hC : Cx D cy ad R0 L (fA ad L s.heap.size) s M H locs) (hl : lv_has ls 4 [(0, .ref (ad 20)), (1, .int a1)]), W p l e ({ frames := 4, cells := 0, slots := 0, locals := 97 }) s m ([.ref (ad 20), .int a1] : List Value).toArray below meth c H locs 0 0 (MQ below (va_Qv (fun N => N = sp_X7_hunter M a1) (OW D cy ad L s.heap.size) (fA ad L s.heap.size)) ([.ref (ad 20), .int a1] : List Value).toArray s 0 0 (fA ad L s.heap.size)) (F0 m 50 ls [.int x4]) := by
    intro x4 H locs ls  hT hV hC hl
    have hT : sp_X7_hunter M a1 = sp_X7_hunter_n6 M a1 (FP.fmul 1044549468 (FP.fadd FP.fconst1 (FP.fmul 1025758986 (FP.i2f x4)))) := hT
    have hV : (vf_n32 (FP.fmul 1025758986 (FP.i2f x4))) ∧ ((vf_n32 (FP.fadd FP.fconst1 (FP.fmul 1025758986 (FP.i2f x4)))) ∧ ((vf_n32 (FP.fmul 1044549468 (FP.fadd FP.fconst1 (FP.fmul 1025758986 (FP.i2f x4))))) ∧ (vc_X7_hunter_n6 M a1 (FP.fmul 1044549468 (FP.fadd FP.fconst1 (FP.fmul 1025758986 (FP.i2f x4))))))) := hV
    refine lv_istore_n (lv' := [(2, .int x4), (0, .ref (ad 20)), (1, .int a1)]) hx hb dX7_hunter_50 rfl hl (by decide) rfl (fun ls hl => ?_)
    refine lv_ldcf (v := 1044549468) hx hb hown (hB _ mw_4_2) dX7_hunter_51 ?_
    refine lv_fconst1 hx hb dX7_hunter_53 ?_
    refine lv_ldcf (v := 1025758986) hx hb hown (hB _ mw_4_3) dX7_hunter_54 ?_
    refine lv_iload_n hx hb dX7_hunter_56 rfl (lv_at hl 0 rfl) ?_
    refine lv_i2f hx hb dX7_hunter_57 ?_
    obtain ⟨w58, hV⟩ : (vf_n32 (FP.fmul 1025758986 (FP.i2f x4))) ∧ ((vf_n32 (FP.fadd FP.fconst1 (FP.fmul 1025758986 (FP.i2f x4)))) ∧ ((vf_n32 (FP.fmul 1044549468 (FP.fadd FP.fconst1 (FP.fmul 1025758986 (FP.i2f x4))))) ∧ (vc_X7_hunter_n6 M a1 (FP.fmul 1044549468 (FP.fadd FP.fconst1 (FP.fmul 1025758986 (FP.i2f x4))))))) := hV
    refine lv_fmul hx hb dX7_hunter_58 w58 ?_
    obtain ⟨w59, hV⟩ : (vf_n32 (FP.fadd FP.fconst1 (FP.fmul 1025758986 (FP.i2f x4)))) ∧ ((vf_n32 (FP.fmul 1044549468 (FP.fadd FP.fconst1 (FP.fmul 1025758986 (FP.i2f x4))))) ∧ (vc_X7_hunter_n6 M a1 (FP.fmul 1044549468 (FP.fadd FP.fconst1 (FP.fmul 1025758986 (FP.i2f x4)))))) := hV
    refine lv_fadd hx hb dX7_hunter_59 w59 ?_
    obtain ⟨w60, hV⟩ : (vf_n32 (FP.fmul 1044549468 (FP.fadd FP.fconst1 (FP.fmul 1025758986 (FP.i2f x4))))) ∧ (vc_X7_hunter_n6 M a1 (FP.fmul 1044549468 (FP.fadd FP.fconst1 (FP.fmul 1025758986 (FP.i2f x4))))) := hV
    refine lv_fmul hx hb dX7_hunter_60 w60 ?_
    refine lv_topf (fun f5 ef5 => ?_)
    have hT : sp_X7_hunter M a1 = sp_X7_hunter_n6 M a1 f5 := by rw [ef5]; exact hT
    have hV : vc_X7_hunter_n6 M a1 f5 := by rw [ef5]; exact hV
    refine lv_fstore_n (lv' := [(3, .float f5), (2, .int x4), (0, .ref (ad 20)), (1, .int a1)]) hx hb dX7_hunter_61 rfl hl (by decide) rfl (fun ls hl => ?_)
    refine lv_aload_n hx hb dX7_hunter_62 rfl (lv_at hl 2 rfl) ?_
    refine q_getr (T := TX7) hx hb hB uw_X7 hown hK hC rfl (hL 20 (by decide) (by decide)) rfl 19 (by decide) rfl rfl (hB _ mw_3_63) dX7_hunter_63 ?_
    refine lv_iload_n hx hb dX7_hunter_66 rfl (lv_at hl 3 rfl) ?_
    refine lv_aload_n hx hb dX7_hunter_67 rfl (lv_at hl 2 rfl) ?_
    refine q_getr (T := TX7) hx hb hB uw_X7 hown hK hC rfl (hL 20 (by decide) (by decide)) rfl 19 (by decide) rfl rfl (hB _ mw_3_63) dX7_hunter_68 ?_
    refine lv_iload_n hx hb dX7_hunter_71 rfl (lv_at hl 3 rfl) ?_
    obtain ⟨w72, hV⟩ : vp_in a1 5 ∧ (vp_in a1 5 ∧ (if (gI M 27 a1.toNatClampNeg) = 0 then vc_X7_hunter_B89 M a1 f5 else ((vf_n32 (FP.fdiv f5 FP.fconst2)) ∧ (vc_X7_hunter_B89 M a1 (FP.fdiv f5 FP.fconst2))))) := hV
    refine q_fald hx hb hK hC rfl (hL 26 (by decide) (by decide)) rfl w72 rfl dX7_hunter_72 ?_
    refine lv_aload_n hx hb dX7_hunter_73 rfl (lv_at hl 2 rfl) ?_
    refine q_getr (T := TX7) hx hb hB uw_X7 hown hK hC rfl (hL 20 (by decide) (by decide)) rfl 20 (by decide) rfl rfl (hB _ mw_3_64) dX7_hunter_74 ?_
    refine lv_iload_n hx hb dX7_hunter_77 rfl (lv_at hl 3 rfl) ?_
    obtain ⟨w78, hV⟩ : vp_in a1 5 ∧ (if (gI M 27 a1.toNatClampNeg) = 0 then vc_X7_hunter_B89 M a1 f5 else ((vf_n32 (FP.fdiv f5 FP.fconst2)) ∧ (vc_X7_hunter_B89 M a1 (FP.fdiv f5 FP.fconst2)))) := hV
    refine q_zald hx hb hK hC rfl (hL 27 (by decide) (by decide)) rfl w78 rfl dX7_hunter_78 ?_
    refine lv_if_eq (tgt := 88) hx hb dX7_hunter_79 (by decide) (fun c79 => ?_) (fun c79 => ?_)
    · have hT : sp_X7_hunter M a1 = sp_X7_hunter_B89 M a1 f5 := hT.trans (if_pos c79)
      have hV : vc_X7_hunter_B89 M a1 f5 := iteT hV c79
      refine lv_fload_n hx hb dX7_hunter_88 rfl (lv_at hl 0 rfl) ?_
      exact J89 f5 _ _ _  hT hV hC (lv_sub hl [2, 3] rfl)
    · have hT : sp_X7_hunter M a1 = sp_X7_hunter_B89 M a1 (FP.fdiv f5 FP.fconst2) := hT.trans (if_neg c79)
      have hV : (vf_n32 (FP.fdiv f5 FP.fconst2)) ∧ (vc_X7_hunter_B89 M a1 (FP.fdiv f5 FP.fconst2)) := iteF hV c79
      refine lv_fload_n hx hb dX7_hunter_82 rfl (lv_at hl 0 rfl) ?_
      refine lv_fconst2 hx hb dX7_hunter_83 ?_
      obtain ⟨w84, hV⟩ : (vf_n32 (FP.fdiv f5 FP.fconst2)) ∧ (vc_X7_hunter_B89 M a1 (FP.fdiv f5 FP.fconst2)) := hV
      refine lv_fdiv hx hb dX7_hunter_84 w84 ?_
      refine lv_goto (tgt := 89) hx hb dX7_hunter_85 (by decide) ?_
      exact J89 (FP.fdiv f5 FP.fconst2) _ _ _  hT hV hC (lv_sub hl [2, 3] rfl)
  have J33 : ∀ (M3 : Mem) (H : Heap) (locs : List Loc) (ls : Array Slot) (hT : sp_X7_hunter M a1 = sp_X7_hunter_B33 M3) (hC : Cx D cy ad R0 L (fA ad L s.heap.size) s M3 H locs) (hl : lv_has ls 4 []), W p l e ({ frames := 4, cells := 0, slots := 0, locals := 97 }) s m ([.ref (ad 20), .int a1] : List Value).toArray below meth c H locs 0 0 (MQ below (va_Qv (fun N => N = sp_X7_hunter M a1) (OW D cy ad L s.heap.size) (fA ad L s.heap.size)) ([.ref (ad 20), .int a1] : List Value).toArray s 0 0 (fA ad L s.heap.size)) (F0 m 33 ls []) := by
    intro M3 H locs ls  hT hC hl
    have hT : sp_X7_hunter M a1 = M3 := hT
    exact q_retv hx hb hr hlocks hC hT.symm dX7_hunter_33
  have hT : sp_X7_hunter M a1 = if (gI M 28 a1.toNatClampNeg) ≤ 0 then (if (gI M 20 8) ≤ 5 then (sp_X7_hunter_B50 M a1 (gI M 20 8)) else (sp_X7_hunter_B50 M a1 5)) else (sp_X7_hunter_n8 a1 (wI M 28 a1.toNatClampNeg ((gI M 28 a1.toNatClampNeg) - 1))) := rfl
  have hV : vp_in a1 5 ∧ (if (gI M 28 a1.toNatClampNeg) ≤ 0 then (if (gI M 20 8) ≤ 5 then (vc_X7_hunter_B50 M a1 (gI M 20 8)) else vc_X7_hunter_B50 M a1 5) else (vp_in a1 5 ∧ (vp_in a1 5 ∧ (vc_X7_hunter_n8 a1 (wI M 28 a1.toNatClampNeg ((gI M 28 a1.toNatClampNeg) - 1)))))) := hV
  refine lv_aload_n hx hb dX7_hunter_0 rfl (lv_at hl 0 rfl) ?_
  refine q_getr (T := TX7) hx hb hB uw_X7 hown hK hC rfl (hL 20 (by decide) (by decide)) rfl 21 (by decide) rfl rfl (hB _ mw_3_65) dX7_hunter_1 ?_
  refine lv_iload_n hx hb dX7_hunter_4 rfl (lv_at hl 1 rfl) ?_
  obtain ⟨w5, hV⟩ : vp_in a1 5 ∧ (if (gI M 28 a1.toNatClampNeg) ≤ 0 then (if (gI M 20 8) ≤ 5 then (vc_X7_hunter_B50 M a1 (gI M 20 8)) else vc_X7_hunter_B50 M a1 5) else (vp_in a1 5 ∧ (vp_in a1 5 ∧ (vc_X7_hunter_n8 a1 (wI M 28 a1.toNatClampNeg ((gI M 28 a1.toNatClampNeg) - 1)))))) := hV
  refine q_iald hx hb hK hC rfl (hL 28 (by decide) (by decide)) rfl w5 rfl dX7_hunter_5 ?_
  refine lv_if_le (tgt := 34) hx hb dX7_hunter_6 (by decide) (fun c6 => ?_) (fun c6 => ?_)
  · have hT : sp_X7_hunter M a1 = if (gI M 20 8) ≤ 5 then (sp_X7_hunter_B50 M a1 (gI M 20 8)) else (sp_X7_hunter_B50 M a1 5) := hT.trans (if_pos c6)
    have hV : if (gI M 20 8) ≤ 5 then (vc_X7_hunter_B50 M a1 (gI M 20 8)) else vc_X7_hunter_B50 M a1 5 := iteT hV c6
    refine lv_aload_n hx hb dX7_hunter_34 rfl (lv_at hl 0 rfl) ?_
    refine q_geti (T := TX7) hx hb hB uw_X7 hown hK hC rfl (hL 20 (by decide) (by decide)) rfl 8 (by decide) rfl (hB _ mw_3_52) dX7_hunter_35 ?_
    refine lv_iconst (v := 5) hx hb dX7_hunter_38 (by decide) ?_
    refine lv_icmp_le (tgt := 46) hx hb dX7_hunter_39 (by decide) (fun c39 => ?_) (fun c39 => ?_)
    · have hT : sp_X7_hunter M a1 = sp_X7_hunter_B50 M a1 (gI M 20 8) := hT.trans (if_pos c39)
      have hV : vc_X7_hunter_B50 M a1 (gI M 20 8) := iteT hV c39
      refine lv_aload_n hx hb dX7_hunter_46 rfl (lv_at hl 0 rfl) ?_
      refine q_geti (T := TX7) hx hb hB uw_X7 hown hK hC rfl (hL 20 (by decide) (by decide)) rfl 8 (by decide) rfl (hB _ mw_3_52) dX7_hunter_47 ?_
      exact J50 (gI M 20 8) _ _ _  hT hV hC (lv_sub hl [0, 1] rfl)
    · have hT : sp_X7_hunter M a1 = sp_X7_hunter_B50 M a1 5 := hT.trans (if_neg c39)
      have hV : vc_X7_hunter_B50 M a1 5 := iteF hV c39
      refine lv_iconst (v := 5) hx hb dX7_hunter_42 (by decide) ?_
      refine lv_goto (tgt := 50) hx hb dX7_hunter_43 (by decide) ?_
      exact J50 5 _ _ _  hT hV hC (lv_sub hl [0, 1] rfl)
  · have hT : sp_X7_hunter M a1 = sp_X7_hunter_n8 a1 (wI M 28 a1.toNatClampNeg ((gI M 28 a1.toNatClampNeg) - 1)) := hT.trans (if_neg c6)
    have hV : vp_in a1 5 ∧ (vp_in a1 5 ∧ (vc_X7_hunter_n8 a1 (wI M 28 a1.toNatClampNeg ((gI M 28 a1.toNatClampNeg) - 1)))) := iteF hV c6
    refine lv_aload_n hx hb dX7_hunter_9 rfl (lv_at hl 0 rfl) ?_
    refine q_getr (T := TX7) hx hb hB uw_X7 hown hK hC rfl (hL 20 (by decide) (by decide)) rfl 21 (by decide) rfl rfl (hB _ mw_3_65) dX7_hunter_10 ?_
    refine lv_iload_n hx hb dX7_hunter_13 rfl (lv_at hl 1 rfl) ?_
    refine lv_dup2_11 hx hb dX7_hunter_14 rfl rfl ?_
    obtain ⟨w15, hV⟩ : vp_in a1 5 ∧ (vp_in a1 5 ∧ (vc_X7_hunter_n8 a1 (wI M 28 a1.toNatClampNeg ((gI M 28 a1.toNatClampNeg) - 1)))) := hV
    refine q_iald hx hb hK hC rfl (hL 28 (by decide) (by decide)) rfl w15 rfl dX7_hunter_15 ?_
    refine lv_iconst (v := 1) hx hb dX7_hunter_16 (by decide) ?_
    refine lv_isub hx hb dX7_hunter_17 ?_
    obtain ⟨w18, hV⟩ : vp_in a1 5 ∧ (vc_X7_hunter_n8 a1 (wI M 28 a1.toNatClampNeg ((gI M 28 a1.toNatClampNeg) - 1))) := hV
    refine q_iast hx hb hK hC rfl (hL 28 (by decide) (by decide)) rfl w18 rfl dX7_hunter_18 (fun H locs hC => ?_)
    obtain ⟨M1, eM1⟩ : ∃ z : Mem, z = wI M 28 a1.toNatClampNeg ((gI M 28 a1.toNatClampNeg) - 1) := ⟨_, rfl⟩
    rw [← eM1] at hC
    have hT : sp_X7_hunter M a1 = sp_X7_hunter_n8 a1 M1 := by rw [eM1]; exact hT
    have hV : vc_X7_hunter_n8 a1 M1 := by rw [eM1]; exact hV
    refine lv_aload_n hx hb dX7_hunter_19 rfl (lv_at hl 0 rfl) ?_
    refine q_getr (T := TX7) hx hb hB uw_X7 hown hK hC rfl (hL 20 (by decide) (by decide)) rfl 21 (by decide) rfl rfl (hB _ mw_3_65) dX7_hunter_20 ?_
    refine lv_iload_n hx hb dX7_hunter_23 rfl (lv_at hl 1 rfl) ?_
    obtain ⟨w24, hV⟩ : vp_in a1 5 ∧ (if (gI M1 28 a1.toNatClampNeg) = 0 then vc_X7_choose M1 a1 else True) := hV
    refine q_iald hx hb hK hC rfl (hL 28 (by decide) (by decide)) rfl w24 rfl dX7_hunter_24 ?_
    refine lv_if_ne (tgt := 33) hx hb dX7_hunter_25 (by decide) (fun c25 => ?_) (fun c25 => ?_)
    · have hT : sp_X7_hunter M a1 = sp_X7_hunter_B33 M1 := hT.trans (if_neg c25)
      exact J33 M1 _ _ _  hT hC (lv_sub hl [] rfl)
    · have hT : sp_X7_hunter M a1 = sp_X7_hunter_n7 (sp_X7_choose M1 a1) := hT.trans (if_pos c25)
      have hV : vc_X7_choose M1 a1 := iteT hV c25
      refine lv_aload_n hx hb dX7_hunter_28 rfl (lv_at hl 0 rfl) ?_
      refine lv_iload_n hx hb dX7_hunter_29 rfl (lv_at hl 1 rfl) ?_
      have v30 : vc_X7_choose M1 a1 := hV
      refine q_Cv (q_V (own := "MazeBoardModel") (y := yX7_choose) (As := [.int a1]) (rest := []) ⟨hx, hb, hml, hown, hB⟩ hK hE hC (c_X7_choose l D cy ad L H.size (hL.sub (by decide) (by decide)) M1 a1 v30) rfl (hL 20 (by decide) (by decide)) rfl mw_3_216 mw_3_218 mw_0_38 mw_1_7 mw_3_219 rfl yd_X7_choose ⟨rfl, rfl⟩ ⟨Nat.le_of_ble_eq_true rfl, Nat.le_of_ble_eq_true rfl⟩ rfl hl.1 rfl (Nat.le_of_ble_eq_true rfl) dX7_hunter_30 ⟨Nat.le_refl _, Nat.le_refl _⟩) hC (fun M2 H locs eM2 hC => ?_)
      have hT : sp_X7_hunter M a1 = sp_X7_hunter_n7 M2 := by rw [eM2]; exact hT
      exact J33 M2 _ _ _  hT hC (lv_sub hl [] rfl)
