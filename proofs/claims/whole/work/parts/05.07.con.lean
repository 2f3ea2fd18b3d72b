set_option maxHeartbeats 4000000 in
set_option maxRecDepth 100000 in
theorem c_X7_around (l : Launch) (D : va_G) (cy ad : Nat → Nat) (L : List Nat) (sz : Nat) (M : Mem) (a1 : Int32) : Met l yX7_around (Cond.code yX7_around cX7_around 1 (some .int) :: BG) ({ frames := 0, cells := 0, slots := 0, locals := 0 }) (va_Pc [.int a1] (PW D cy ad L M sz)) (va_Qi (fun r N => r = sp_X7_around a1 ∧ N = M) (OW D cy ad L sz) (fA ad L sz)) 0 0 (fA ad L sz) := by
  refine q_start (by decide) (Nat.le_of_ble_eq_true rfl) (fun p e s m below meth c H locs ls hsz hx hb hr hlocks hml hown hB hK hE hC hl => ?_)
  subst hsz
  have hown : s.vm.findClass "MazeBoardModel" = some m.cls := hown
  have hl : lv_has ls 1 [(0, .int a1)] := hl
  have J25 : ∀ (x1 : Int32) (H : Heap) (locs : List Loc) (ls : Array Slot) (hT : sp_X7_around a1 = sp_X7_around_B25 x1) (hC : Cx D cy ad R0 L (fA ad L s.heap.size) s M H locs) (hl : lv_has ls 1 []), W p l e ({ frames := 0, cells := 0, slots := 0, locals := 0 }) s m ([.int a1] : List Value).toArray below meth c H locs 0 0 (MQ below (va_Qi (fun r N => r = sp_X7_around a1 ∧ N = M) (OW D cy ad L s.heap.size) (fA ad L s.heap.size)) ([.int a1] : List Value).toArray s 0 0 (fA ad L s.heap.size)) (F0 m 25 ls [.int x1]) := by
    intro x1 H locs ls  hT hC hl
    have hT : sp_X7_around a1 = x1 := hT
    exact q_reti hx hb hr hlocks hC ⟨hT.symm, rfl⟩ dX7_around_25
  have hT : sp_X7_around a1 = if 0 ≤ a1 then (if a1 ≤ 12 then (sp_X7_around_B25 a1) else (sp_X7_around_B25 (a1 - 13))) else (sp_X7_around_B25 (a1 + 13)) := rfl
  refine lv_iload_n hx hb dX7_around_0 rfl (lv_at hl 0 rfl) ?_
  refine lv_if_ge (tgt := 11) hx hb dX7_around_1 (by decide) (fun c1 => ?_) (fun c1 => ?_)
  · have hT : sp_X7_around a1 = if a1 ≤ 12 then (sp_X7_around_B25 a1) else (sp_X7_around_B25 (a1 - 13)) := hT.trans (if_pos c1)
    refine lv_iload_n hx hb dX7_around_11 rfl (lv_at hl 0 rfl) ?_
    refine lv_bipush (v := 12) hx hb dX7_around_12 (by decide) ?_
    refine lv_icmp_le (tgt := 24) hx hb dX7_around_14 (by decide) (fun c14 => ?_) (fun c14 => ?_)
    · have hT : sp_X7_around a1 = sp_X7_around_B25 a1 := hT.trans (if_pos c14)
      refine lv_iload_n hx hb dX7_around_24 rfl (lv_at hl 0 rfl) ?_
      exact J25 a1 _ _ _  hT hC (lv_sub hl [] rfl)
    · have hT : sp_X7_around a1 = sp_X7_around_B25 (a1 - 13) := hT.trans (if_neg c14)
      refine lv_iload_n hx hb dX7_around_17 rfl (lv_at hl 0 rfl) ?_
      refine lv_bipush (v := 13) hx hb dX7_around_18 (by decide) ?_
      refine lv_isub hx hb dX7_around_20 ?_
      refine lv_goto (tgt := 25) hx hb dX7_around_21 (by decide) ?_
      exact J25 (a1 - 13) _ _ _  hT hC (lv_sub hl [] rfl)
  · have hT : sp_X7_around a1 = sp_X7_around_B25 (a1 + 13) := hT.trans (if_neg c1)
    refine lv_iload_n hx hb dX7_around_4 rfl (lv_at hl 0 rfl) ?_
    refine lv_bipush (v := 13) hx hb dX7_around_5 (by decide) ?_
    refine lv_iadd hx hb dX7_around_7 ?_
    refine lv_goto (tgt := 25) hx hb dX7_around_8 (by decide) ?_
    exact J25 (a1 + 13) _ _ _  hT hC (lv_sub hl [] rfl)
set_option maxHeartbeats 4000000 in
set_option maxRecDepth 100000 in
theorem c_X7_nextColumn (l : Launch) (D : va_G) (cy ad : Nat → Nat) (L : List Nat) (sz : Nat) (hL : lr 20 34 L) (M : Mem) (a1 : Int32) (a2 : Int32) (hV : vc_X7_nextColumn M a1 a2) : Met l yX7_nextColumn (Cond.code yX7_nextColumn cX7_nextColumn 3 (some .int) :: BG) ({ frames := 1, cells := 0, slots := 0, locals := 20 }) (va_Pc [.ref (ad 20), .int a1, .int a2] (PW D cy ad L M sz)) (va_Qi (fun r N => r = sp_X7_nextColumn M a1 a2 ∧ N = M) (OW D cy ad L sz) (fA ad L sz)) 0 0 (fA ad L sz) := by
  refine q_start (by decide) (Nat.le_of_ble_eq_true rfl) (fun p e s m below meth c H locs ls hsz hx hb hr hlocks hml hown hB hK hE hC hl => ?_)
  subst hsz
  have hown : s.vm.findClass "MazeBoardModel" = some m.cls := hown
  have hl : lv_has ls 3 [(0, .ref (ad 20)), (1, .int a1), (2, .int a2)] := hl
  have hT : sp_X7_nextColumn M a1 a2 = sp_X7_around ((gI M 23 a1.toNatClampNeg) + (sp_X7_across a2)) := rfl
  have hV : vp_in a1 5 := hV
  refine lv_aload_n hx hb dX7_nextColumn_0 rfl (lv_at hl 0 rfl) ?_
  refine q_getr (T := TX7) hx hb hB uw_X7 hown hK hC rfl (hL 20 (by decide) (by decide)) rfl 16 (by decide) rfl rfl (hB _ mw_3_60) dX7_nextColumn_1 ?_
  refine lv_iload_n hx hb dX7_nextColumn_4 rfl (lv_at hl 1 rfl) ?_
  have w5 : vp_in a1 5 := hV
  refine q_iald hx hb hK hC rfl (hL 23 (by decide) (by decide)) rfl w5 rfl dX7_nextColumn_5 ?_
  refine lv_iload_n hx hb dX7_nextColumn_6 rfl (lv_at hl 2 rfl) ?_
  refine q_Ci (q_S (own := "MazeBoardModel") (y := yX7_across) (As := [.int a2]) (rest := [.int (gI M 23 a1.toNatClampNeg)]) ⟨hx, hb, hml, hown, hB⟩ hK hE hC (c_X7_across l D cy ad L H.size M a2) mw_3_192 mw_3_193 mw_1_7 mw_3_194 yd_X7_across ⟨rfl, rfl⟩ ⟨Nat.le_of_ble_eq_true rfl, Nat.le_of_ble_eq_true rfl⟩ rfl hl.1 rfl (Nat.le_of_ble_eq_true rfl) dX7_nextColumn_7 ⟨Nat.le_refl _, Nat.le_refl _⟩) hC (fun r N_ H locs hp hC => ?_)
  obtain ⟨hr_, hM_⟩ := hp
  subst hr_
  rw [hM_] at hC
  refine lv_iadd hx hb dX7_nextColumn_10 ?_
  refine q_Ci (q_S (own := "MazeBoardModel") (y := yX7_around) (As := [.int ((gI M 23 a1.toNatClampNeg) + (sp_X7_across a2))]) (rest := []) ⟨hx, hb, hml, hown, hB⟩ hK hE hC (c_X7_around l D cy ad L H.size M ((gI M 23 a1.toNatClampNeg) + (sp_X7_across a2))) mw_3_195 mw_3_196 mw_1_7 mw_3_197 yd_X7_around ⟨rfl, rfl⟩ ⟨Nat.le_of_ble_eq_true rfl, Nat.le_of_ble_eq_true rfl⟩ rfl hl.1 rfl (Nat.le_of_ble_eq_true rfl) dX7_nextColumn_11 ⟨Nat.le_refl _, Nat.le_refl _⟩) hC (fun r N_ H locs hp hC => ?_)
  obtain ⟨hr_, hM_⟩ := hp
  subst hr_
  rw [hM_] at hC
  exact q_reti hx hb hr hlocks hC ⟨hT.symm, rfl⟩ dX7_nextColumn_14
set_option maxHeartbeats 4000000 in
set_option maxRecDepth 100000 in
theorem c_X7_nextRow (l : Launch) (D : va_G) (cy ad : Nat → Nat) (L : List Nat) (sz : Nat) (hL : lr 20 34 L) (M : Mem) (a1 : Int32) (a2 : Int32) (hV : vc_X7_nextRow M a1 a2) : Met l yX7_nextRow (Cond.code yX7_nextRow cX7_nextRow 3 (some .int) :: BG) ({ frames := 1, cells := 0, slots := 0, locals := 20 }) (va_Pc [.ref (ad 20), .int a1, .int a2] (PW D cy ad L M sz)) (va_Qi (fun r N => r = sp_X7_nextRow M a1 a2 ∧ N = M) (OW D cy ad L sz) (fA ad L sz)) 0 0 (fA ad L sz) := by
  refine q_start (by decide) (Nat.le_of_ble_eq_true rfl) (fun p e s m below meth c H locs ls hsz hx hb hr hlocks hml hown hB hK hE hC hl => ?_)
  subst hsz
  have hown : s.vm.findClass "MazeBoardModel" = some m.cls := hown
  have hl : lv_has ls 3 [(0, .ref (ad 20)), (1, .int a1), (2, .int a2)] := hl
  have hT : sp_X7_nextRow M a1 a2 = (gI M 24 a1.toNatClampNeg) + (sp_X7_down a2) := rfl
  have hV : vp_in a1 5 := hV
  refine lv_aload_n hx hb dX7_nextRow_0 rfl (lv_at hl 0 rfl) ?_
  refine q_getr (T := TX7) hx hb hB uw_X7 hown hK hC rfl (hL 20 (by decide) (by decide)) rfl 17 (by decide) rfl rfl (hB _ mw_3_61) dX7_nextRow_1 ?_
  refine lv_iload_n hx hb dX7_nextRow_4 rfl (lv_at hl 1 rfl) ?_
  have w5 : vp_in a1 5 := hV
  refine q_iald hx hb hK hC rfl (hL 24 (by decide) (by decide)) rfl w5 rfl dX7_nextRow_5 ?_
  refine lv_iload_n hx hb dX7_nextRow_6 rfl (lv_at hl 2 rfl) ?_
  refine q_Ci (q_S (own := "MazeBoardModel") (y := yX7_down) (As := [.int a2]) (rest := [.int (gI M 24 a1.toNatClampNeg)]) ⟨hx, hb, hml, hown, hB⟩ hK hE hC (c_X7_down l D cy ad L H.size M a2) mw_3_185 mw_3_186 mw_1_7 mw_3_187 yd_X7_down ⟨rfl, rfl⟩ ⟨Nat.le_of_ble_eq_true rfl, Nat.le_of_ble_eq_true rfl⟩ rfl hl.1 rfl (Nat.le_of_ble_eq_true rfl) dX7_nextRow_7 ⟨Nat.le_refl _, Nat.le_refl _⟩) hC (fun r N_ H locs hp hC => ?_)
  obtain ⟨hr_, hM_⟩ := hp
  subst hr_
  rw [hM_] at hC
  refine lv_iadd hx hb dX7_nextRow_10 ?_
  exact q_reti hx hb hr hlocks hC ⟨hT.symm, rfl⟩ dX7_nextRow_11
set_option maxHeartbeats 4000000 in
set_option maxRecDepth 100000 in
theorem c_X7_open (l : Launch) (D : va_G) (cy ad : Nat → Nat) (L : List Nat) (sz : Nat) (hL : lr 20 34 L) (M : Mem) (a1 : Int32) (a2 : Int32) (hV : vc_X7_open M a1 a2) : Met l yX7_open (Cond.code yX7_open cX7_open 5 (some .boolean) :: BG) ({ frames := 2, cells := 0, slots := 0, locals := 42 }) (va_Pc [.ref (ad 20), .int a1, .int a2] (PW D cy ad L M sz)) (va_Qi (fun r N => r = sp_X7_open M a1 a2 ∧ N = M) (OW D cy ad L sz) (fA ad L sz)) 0 0 (fA ad L sz) := by
  refine q_start (by decide) (Nat.le_of_ble_eq_true rfl) (fun p e s m below meth c H locs ls hsz hx hb hr hlocks hml hown hB hK hE hC hl => ?_)
  subst hsz
  have hown : s.vm.findClass "MazeBoardModel" = some m.cls := hown
  have hl : lv_has ls 5 [(0, .ref (ad 20)), (1, .int a1), (2, .int a2)] := hl
  have J67 : ∀ (x3 : Int32) (H : Heap) (locs : List Loc) (ls : Array Slot) (hT : sp_X7_open M a1 a2 = sp_X7_open_B67 x3) (hV : vc_X7_open_B67 x3) (hC : Cx D cy ad R0 L (fA ad L s.heap.size) s M H locs) (hl : lv_has ls 5 []), W p l e ({ frames := 2, cells := 0, slots := 0, locals := 42 }) s m ([.ref (ad 20), .int a1, .int a2] : List Value).toArray below meth c H locs 0 0 (MQ below (va_Qi (fun r N => r = sp_X7_open M a1 a2 ∧ N = M) (OW D cy ad L s.heap.size) (fA ad L s.heap.size)) ([.ref (ad 20), .int a1, .int a2] : List Value).toArray s 0 0 (fA ad L s.heap.size)) (F0 m 67 ls [.int x3]) := by
    intro x3 H locs ls  hT hV hC hl
    have hT : sp_X7_open M a1 a2 = x3 := hT
    have hV : (x3 = 0 ∨ x3 = 1) := hV
    have w67 : x3 = 0 ∨ x3 = 1 := hV
    exact q_retz hx hb hr hlocks hC w67 ⟨hT.symm, rfl⟩ dX7_open_67
  have J66 : ∀  (H : Heap) (locs : List Loc) (ls : Array Slot) (hT : sp_X7_open M a1 a2 = sp_X7_open_B66 ) (hV : vc_X7_open_B66 ) (hC : Cx D cy ad R0 L (fA ad L s.heap.size) s M H locs) (hl : lv_has ls 5 []), W p l e ({ frames := 2, cells := 0, slots := 0, locals := 42 }) s m ([.ref (ad 20), .int a1, .int a2] : List Value).toArray below meth c H locs 0 0 (MQ below (va_Qi (fun r N => r = sp_X7_open M a1 a2 ∧ N = M) (OW D cy ad L s.heap.size) (fA ad L s.heap.size)) ([.ref (ad 20), .int a1, .int a2] : List Value).toArray s 0 0 (fA ad L s.heap.size)) (F0 m 66 ls []) := by
    intro  H locs ls  hT hV hC hl
    have hT : sp_X7_open M a1 a2 = sp_X7_open_B67 0 := hT
    have hV : vc_X7_open_B67 0 := hV
    refine lv_iconst (v := 0) hx hb dX7_open_66 (by decide) ?_
    exact J67 0 _ _ _  hT hV hC (lv_sub hl [] rfl)
  have J62 : ∀  (H : Heap) (locs : List Loc) (ls : Array Slot) (hT : sp_X7_open M a1 a2 = sp_X7_open_B62 ) (hV : vc_X7_open_B62 ) (hC : Cx D cy ad R0 L (fA ad L s.heap.size) s M H locs) (hl : lv_has ls 5 []), W p l e ({ frames := 2, cells := 0, slots := 0, locals := 42 }) s m ([.ref (ad 20), .int a1, .int a2] : List Value).toArray below meth c H locs 0 0 (MQ below (va_Qi (fun r N => r = sp_X7_open M a1 a2 ∧ N = M) (OW D cy ad L s.heap.size) (fA ad L s.heap.size)) ([.ref (ad 20), .int a1, .int a2] : List Value).toArray s 0 0 (fA ad L s.heap.size)) (F0 m 62 ls []) := by
    intro  H locs ls  hT hV hC hl
    have hT : sp_X7_open M a1 a2 = sp_X7_open_B67 1 := hT
    have hV : vc_X7_open_B67 1 := hV
    refine lv_iconst (v := 1) hx hb dX7_open_62 (by decide) ?_
    refine lv_goto (tgt := 67) hx hb dX7_open_63 (by decide) ?_
    exact J67 1 _ _ _  hT hV hC (lv_sub hl [] rfl)
  have J17 : ∀  (H : Heap) (locs : List Loc) (ls : Array Slot) (hT : sp_X7_open M a1 a2 = sp_X7_open_B17 ) (hC : Cx D cy ad R0 L (fA ad L s.heap.size) s M H locs) (hl : lv_has ls 5 []), W p l e ({ frames := 2, cells := 0, slots := 0, locals := 42 }) s m ([.ref (ad 20), .int a1, .int a2] : List Value).toArray below meth c H locs 0 0 (MQ below (va_Qi (fun r N => r = sp_X7_open M a1 a2 ∧ N = M) (OW D cy ad L s.heap.size) (fA ad L s.heap.size)) ([.ref (ad 20), .int a1, .int a2] : List Value).toArray s 0 0 (fA ad L s.heap.size)) (F0 m 17 ls []) := by
    intro  H locs ls  hT hC hl
    have hT : sp_X7_open M a1 a2 = 0 := hT
    refine lv_iconst (v := 0) hx hb dX7_open_17 (by decide) ?_
    exact q_retz hx hb hr hlocks hC (by decide) ⟨hT.symm, rfl⟩ dX7_open_18
  have hT : sp_X7_open M a1 a2 = sp_X7_open_n2 M a1 a2 (sp_X7_nextRow M a1 a2) := rfl
  have hV : vc_X7_nextRow M a1 a2 ∧ (vc_X7_open_n2 M a1 a2 (sp_X7_nextRow M a1 a2)) := hV
  refine lv_aload_n hx hb dX7_open_0 rfl (lv_at hl 0 rfl) ?_
  refine lv_iload_n hx hb dX7_open_1 rfl (lv_at hl 1 rfl) ?_
  refine lv_iload_n hx hb dX7_open_2 rfl (lv_at hl 2 rfl) ?_
  obtain ⟨v3, hV⟩ : vc_X7_nextRow M a1 a2 ∧ (vc_X7_open_n2 M a1 a2 (sp_X7_nextRow M a1 a2)) := hV
  refine q_Ci (q_V (own := "MazeBoardModel") (y := yX7_nextRow) (As := [.int a1, .int a2]) (rest := []) ⟨hx, hb, hml, hown, hB⟩ hK hE hC (c_X7_nextRow l D cy ad L H.size (hL.sub (by decide) (by decide)) M a1 a2 v3) rfl (hL 20 (by decide) (by decide)) rfl mw_3_181 mw_3_183 mw_0_32 mw_1_7 mw_3_184 rfl yd_X7_nextRow ⟨rfl, rfl⟩ ⟨Nat.le_of_ble_eq_true rfl, Nat.le_of_ble_eq_true rfl⟩ rfl hl.1 rfl (Nat.le_of_ble_eq_true rfl) dX7_open_3 ⟨Nat.le_refl _, Nat.le_refl _⟩) hC (fun r N_ H locs hp hC => ?_)
  obtain ⟨hr_, hM_⟩ := hp
  subst hr_
  rw [hM_] at hC
  refine lv_topi (fun x1 ex1 => ?_)
  have hT : sp_X7_open M a1 a2 = sp_X7_open_n2 M a1 a2 x1 := by rw [ex1]; exact hT
  have hV : vc_X7_open_n2 M a1 a2 x1 := by rw [ex1]; exact hV
  refine lv_istore_n (lv' := [(3, .int x1), (0, .ref (ad 20)), (1, .int a1), (2, .int a2)]) hx hb dX7_open_6 rfl hl (by decide) rfl (fun ls hl => ?_)
  refine lv_iload_n hx hb dX7_open_7 rfl (lv_at hl 0 rfl) ?_
  refine lv_if_lt (tgt := 17) hx hb dX7_open_8 (by decide) (fun c8 => ?_) (fun c8 => ?_)
  · have hT : sp_X7_open M a1 a2 = sp_X7_open_B17 := hT.trans (if_pos c8)
    exact J17  _ _ _  hT hC (lv_sub hl [] rfl)
  · have hT : sp_X7_open M a1 a2 = if x1 ≤ 8 then (sp_X7_open_n1 M a1 (gI M 22 (((13 * x1) + (sp_X7_nextColumn M a1 a2)).toNatClampNeg))) else sp_X7_open_B17 := hT.trans (if_neg c8)
    have hV : if x1 ≤ 8 then (vc_X7_nextColumn M a1 a2 ∧ ((vp_in ((13 * x1) + (sp_X7_nextColumn M a1 a2)) 117) ∧ (vc_X7_open_n1 M a1 (gI M 22 (((13 * x1) + (sp_X7_nextColumn M a1 a2)).toNatClampNeg))))) else True := iteF hV c8
    refine lv_iload_n hx hb dX7_open_11 rfl (lv_at hl 0 rfl) ?_
    refine lv_bipush (v := 8) hx hb dX7_open_12 (by decide) ?_
    refine lv_icmp_le (tgt := 19) hx hb dX7_open_14 (by decide) (fun c14 => ?_) (fun c14 => ?_)
    · have hT : sp_X7_open M a1 a2 = sp_X7_open_n1 M a1 (gI M 22 (((13 * x1) + (sp_X7_nextColumn M a1 a2)).toNatClampNeg)) := hT.trans (if_pos c14)
      have hV : vc_X7_nextColumn M a1 a2 ∧ ((vp_in ((13 * x1) + (sp_X7_nextColumn M a1 a2)) 117) ∧ (vc_X7_open_n1 M a1 (gI M 22 (((13 * x1) + (sp_X7_nextColumn M a1 a2)).toNatClampNeg)))) := iteT hV c14
      refine lv_aload_n hx hb dX7_open_19 rfl (lv_at hl 1 rfl) ?_
      refine q_getr (T := TX7) hx hb hB uw_X7 hown hK hC rfl (hL 20 (by decide) (by decide)) rfl 1 (by decide) rfl rfl (hB _ mw_3_45) dX7_open_20 ?_
      refine lv_bipush (v := 13) hx hb dX7_open_23 (by decide) ?_
      refine lv_iload_n hx hb dX7_open_25 rfl (lv_at hl 0 rfl) ?_
      refine lv_imul hx hb dX7_open_26 ?_
      refine lv_aload_n hx hb dX7_open_27 rfl (lv_at hl 1 rfl) ?_
      refine lv_iload_n hx hb dX7_open_28 rfl (lv_at hl 2 rfl) ?_
      refine lv_iload_n hx hb dX7_open_29 rfl (lv_at hl 3 rfl) ?_
      obtain ⟨v30, hV⟩ : vc_X7_nextColumn M a1 a2 ∧ ((vp_in ((13 * x1) + (sp_X7_nextColumn M a1 a2)) 117) ∧ (vc_X7_open_n1 M a1 (gI M 22 (((13 * x1) + (sp_X7_nextColumn M a1 a2)).toNatClampNeg)))) := hV
      refine q_Ci (q_V (own := "MazeBoardModel") (y := yX7_nextColumn) (As := [.int a1, .int a2]) (rest := [.int (13 * x1), .ref (ad 22)]) ⟨hx, hb, hml, hown, hB⟩ hK hE hC (c_X7_nextColumn l D cy ad L H.size (hL.sub (by decide) (by decide)) M a1 a2 v30) rfl (hL 20 (by decide) (by decide)) rfl mw_3_188 mw_3_190 mw_0_33 mw_1_7 mw_3_191 rfl yd_X7_nextColumn ⟨rfl, rfl⟩ ⟨Nat.le_of_ble_eq_true rfl, Nat.le_of_ble_eq_true rfl⟩ rfl hl.1 rfl (Nat.le_of_ble_eq_true rfl) dX7_open_30 ⟨Nat.le_refl _, Nat.le_refl _⟩) hC (fun r N_ H locs hp hC => ?_)
      obtain ⟨hr_, hM_⟩ := hp
      subst hr_
      rw [hM_] at hC
      refine lv_iadd hx hb dX7_open_33 ?_
      obtain ⟨w34, hV⟩ : (vp_in ((13 * x1) + (sp_X7_nextColumn M a1 a2)) 117) ∧ (vc_X7_open_n1 M a1 (gI M 22 (((13 * x1) + (sp_X7_nextColumn M a1 a2)).toNatClampNeg))) := hV
      refine q_iald hx hb hK hC rfl (hL 22 (by decide) (by decide)) rfl w34 rfl dX7_open_34 ?_
      refine lv_topi (fun x2 ex2 => ?_)
      have hT : sp_X7_open M a1 a2 = sp_X7_open_n1 M a1 x2 := by rw [ex2]; exact hT
      have hV : vc_X7_open_n1 M a1 x2 := by rw [ex2]; exact hV
      refine lv_istore (lv' := [(4, .int x2), (3, .int x1), (0, .ref (ad 20)), (1, .int a1), (2, .int a2)]) hx hb dX7_open_35 hl (by decide) rfl (fun ls hl => ?_)
      refine lv_iload hx hb dX7_open_37 (lv_at hl 0 rfl) ?_
      refine lv_iconst (v := 1) hx hb dX7_open_39 (by decide) ?_
      refine lv_icmp_eq (tgt := 66) hx hb dX7_open_40 (by decide) (fun c40 => ?_) (fun c40 => ?_)
      · have hT : sp_X7_open M a1 a2 = sp_X7_open_B66 := hT.trans (if_pos c40)
        have hV : vc_X7_open_B66 := iteT hV c40
        exact J66  _ _ _  hT hV hC (lv_sub hl [] rfl)
      · have hT : sp_X7_open M a1 a2 = if x2 = 4 then (if a1 ≤ 0 then sp_X7_open_B66 else (if (gI M 29 a1.toNatClampNeg) = 0 then sp_X7_open_B66 else sp_X7_open_B62)) else sp_X7_open_B62 := hT.trans (if_neg c40)
        have hV : if x2 = 4 then (if a1 ≤ 0 then vc_X7_open_B66 else (vp_in a1 5 ∧ (if (gI M 29 a1.toNatClampNeg) = 0 then vc_X7_open_B66 else vc_X7_open_B62))) else vc_X7_open_B62 := iteF hV c40
        refine lv_iload hx hb dX7_open_43 (lv_at hl 0 rfl) ?_
        refine lv_iconst (v := 4) hx hb dX7_open_45 (by decide) ?_
        refine lv_icmp_ne (tgt := 62) hx hb dX7_open_46 (by decide) (fun c46 => ?_) (fun c46 => ?_)
        · have hT : sp_X7_open M a1 a2 = sp_X7_open_B62 := hT.trans (if_neg c46)
          have hV : vc_X7_open_B62 := iteF hV c46
          exact J62  _ _ _  hT hV hC (lv_sub hl [] rfl)
        · have hT : sp_X7_open M a1 a2 = if a1 ≤ 0 then sp_X7_open_B66 else (if (gI M 29 a1.toNatClampNeg) = 0 then sp_X7_open_B66 else sp_X7_open_B62) := hT.trans (if_pos c46)
          have hV : if a1 ≤ 0 then vc_X7_open_B66 else (vp_in a1 5 ∧ (if (gI M 29 a1.toNatClampNeg) = 0 then vc_X7_open_B66 else vc_X7_open_B62)) := iteT hV c46
          refine lv_iload_n hx hb dX7_open_49 rfl (lv_at hl 3 rfl) ?_
          refine lv_if_le (tgt := 66) hx hb dX7_open_50 (by decide) (fun c50 => ?_) (fun c50 => ?_)
          · have hT : sp_X7_open M a1 a2 = sp_X7_open_B66 := hT.trans (if_pos c50)
            have hV : vc_X7_open_B66 := iteT hV c50
            exact J66  _ _ _  hT hV hC (lv_sub hl [] rfl)
          · have hT : sp_X7_open M a1 a2 = if (gI M 29 a1.toNatClampNeg) = 0 then sp_X7_open_B66 else sp_X7_open_B62 := hT.trans (if_neg c50)
            have hV : vp_in a1 5 ∧ (if (gI M 29 a1.toNatClampNeg) = 0 then vc_X7_open_B66 else vc_X7_open_B62) := iteF hV c50
            refine lv_aload_n hx hb dX7_open_53 rfl (lv_at hl 2 rfl) ?_
            refine q_getr (T := TX7) hx hb hB uw_X7 hown hK hC rfl (hL 20 (by decide) (by decide)) rfl 22 (by decide) rfl rfl (hB _ mw_3_66) dX7_open_54 ?_
            refine lv_iload_n hx hb dX7_open_57 rfl (lv_at hl 3 rfl) ?_
            obtain ⟨w58, hV⟩ : vp_in a1 5 ∧ (if (gI M 29 a1.toNatClampNeg) = 0 then vc_X7_open_B66 else vc_X7_open_B62) := hV
            refine q_zald hx hb hK hC rfl (hL 29 (by decide) (by decide)) rfl w58 rfl dX7_open_58 ?_
            refine lv_if_eq (tgt := 66) hx hb dX7_open_59 (by decide) (fun c59 => ?_) (fun c59 => ?_)
            · have hT : sp_X7_open M a1 a2 = sp_X7_open_B66 := hT.trans (if_pos c59)
              have hV : vc_X7_open_B66 := iteT hV c59
              exact J66  _ _ _  hT hV hC (lv_sub hl [] rfl)
            · have hT : sp_X7_open M a1 a2 = sp_X7_open_B62 := hT.trans (if_neg c59)
              have hV : vc_X7_open_B62 := iteF hV c59
              exact J62  _ _ _  hT hV hC (lv_sub hl [] rfl)
    · have hT : sp_X7_open M a1 a2 = sp_X7_open_B17 := hT.trans (if_neg c14)
      exact J17  _ _ _  hT hC (lv_sub hl [] rfl)
set_option maxHeartbeats 4000000 in
set_option maxRecDepth 100000 in
theorem c_X7_step (l : Launch) (D : va_G) (cy ad : Nat → Nat) (L : List Nat) (sz : Nat) (hL : lr 20 34 L) (M : Mem) (a1 : Int32) (hV : vc_X7_step M a1) : Met l yX7_step (Cond.code yX7_step cX7_step 3 (none) :: BG) ({ frames := 2, cells := 0, slots := 0, locals := 42 }) (va_Pc [.ref (ad 20), .int a1] (PW D cy ad L M sz)) (va_Qv (fun N => N = sp_X7_step M a1) (OW D cy ad L sz) (fA ad L sz)) 0 0 (fA ad L sz) := by
  refine q_start (by decide) (Nat.le_of_ble_eq_true rfl) (fun p e s m below meth c H locs ls hsz hx hb hr hlocks hml hown hB hK hE hC hl => ?_)
  subst hsz
  have hown : s.vm.findClass "MazeBoardModel" = some m.cls := hown
  have hl : lv_has ls 3 [(0, .ref (ad 20)), (1, .int a1)] := hl
  have hT : sp_X7_step M a1 = sp_X7_step_n3 M a1 (sp_X7_nextColumn M a1 (gI M 25 a1.toNatClampNeg)) := rfl
  have hV : vp_in a1 5 ∧ ((vc_X7_nextColumn M a1 (gI M 25 a1.toNatClampNeg)) ∧ (vc_X7_step_n3 M a1 (sp_X7_nextColumn M a1 (gI M 25 a1.toNatClampNeg)))) := hV
  refine lv_aload_n hx hb dX7_step_0 rfl (lv_at hl 0 rfl) ?_
  refine lv_iload_n hx hb dX7_step_1 rfl (lv_at hl 1 rfl) ?_
  refine lv_aload_n hx hb dX7_step_2 rfl (lv_at hl 0 rfl) ?_
  refine q_getr (T := TX7) hx hb hB uw_X7 hown hK hC rfl (hL 20 (by decide) (by decide)) rfl 18 (by decide) rfl rfl (hB _ mw_3_62) dX7_step_3 ?_
  refine lv_iload_n hx hb dX7_step_6 rfl (lv_at hl 1 rfl) ?_
  obtain ⟨w7, hV⟩ : vp_in a1 5 ∧ ((vc_X7_nextColumn M a1 (gI M 25 a1.toNatClampNeg)) ∧ (vc_X7_step_n3 M a1 (sp_X7_nextColumn M a1 (gI M 25 a1.toNatClampNeg)))) := hV
  refine q_iald hx hb hK hC rfl (hL 25 (by decide) (by decide)) rfl w7 rfl dX7_step_7 ?_
  obtain ⟨v8, hV⟩ : (vc_X7_nextColumn M a1 (gI M 25 a1.toNatClampNeg)) ∧ (vc_X7_step_n3 M a1 (sp_X7_nextColumn M a1 (gI M 25 a1.toNatClampNeg))) := hV
  refine q_Ci (q_V (own := "MazeBoardModel") (y := yX7_nextColumn) (As := [.int a1, .int (gI M 25 a1.toNatClampNeg)]) (rest := []) ⟨hx, hb, hml, hown, hB⟩ hK hE hC (c_X7_nextColumn l D cy ad L H.size (hL.sub (by decide) (by decide)) M a1 (gI M 25 a1.toNatClampNeg) v8) rfl (hL 20 (by decide) (by decide)) rfl mw_3_188 mw_3_190 mw_0_33 mw_1_7 mw_3_191 rfl yd_X7_nextColumn ⟨rfl, rfl⟩ ⟨Nat.le_of_ble_eq_true rfl, Nat.le_of_ble_eq_true rfl⟩ rfl hl.1 rfl (Nat.le_of_ble_eq_true rfl) dX7_step_8 ⟨Nat.le_refl _, Nat.le_refl _⟩) hC (fun r N_ H locs hp hC => ?_)
  obtain ⟨hr_, hM_⟩ := hp
  subst hr_
  rw [hM_] at hC
  refine lv_topi (fun x1 ex1 => ?_)
  have hT : sp_X7_step M a1 = sp_X7_step_n3 M a1 x1 := by rw [ex1]; exact hT
  have hV : vc_X7_step_n3 M a1 x1 := by rw [ex1]; exact hV
  refine lv_istore_n (lv' := [(2, .int x1), (0, .ref (ad 20)), (1, .int a1)]) hx hb dX7_step_11 rfl hl (by decide) rfl (fun ls hl => ?_)
  refine lv_aload_n hx hb dX7_step_12 rfl (lv_at hl 1 rfl) ?_
  refine q_getr (T := TX7) hx hb hB uw_X7 hown hK hC rfl (hL 20 (by decide) (by decide)) rfl 17 (by decide) rfl rfl (hB _ mw_3_61) dX7_step_13 ?_
  refine lv_iload_n hx hb dX7_step_16 rfl (lv_at hl 2 rfl) ?_
  refine lv_aload_n hx hb dX7_step_17 rfl (lv_at hl 1 rfl) ?_
  refine lv_iload_n hx hb dX7_step_18 rfl (lv_at hl 2 rfl) ?_
  refine lv_aload_n hx hb dX7_step_19 rfl (lv_at hl 1 rfl) ?_
  refine q_getr (T := TX7) hx hb hB uw_X7 hown hK hC rfl (hL 20 (by decide) (by decide)) rfl 18 (by decide) rfl rfl (hB _ mw_3_62) dX7_step_20 ?_
  refine lv_iload_n hx hb dX7_step_23 rfl (lv_at hl 2 rfl) ?_
  obtain ⟨w24, hV⟩ : vp_in a1 5 ∧ ((vc_X7_nextRow M a1 (gI M 25 a1.toNatClampNeg)) ∧ (vp_in a1 5 ∧ (vc_X7_step_n2 a1 x1 (wI M 24 a1.toNatClampNeg (sp_X7_nextRow M a1 (gI M 25 a1.toNatClampNeg)))))) := hV
  refine q_iald hx hb hK hC rfl (hL 25 (by decide) (by decide)) rfl w24 rfl dX7_step_24 ?_
  obtain ⟨v25, hV⟩ : (vc_X7_nextRow M a1 (gI M 25 a1.toNatClampNeg)) ∧ (vp_in a1 5 ∧ (vc_X7_step_n2 a1 x1 (wI M 24 a1.toNatClampNeg (sp_X7_nextRow M a1 (gI M 25 a1.toNatClampNeg))))) := hV
  refine q_Ci (q_V (own := "MazeBoardModel") (y := yX7_nextRow) (As := [.int a1, .int (gI M 25 a1.toNatClampNeg)]) (rest := [.int a1, .ref (ad 24)]) ⟨hx, hb, hml, hown, hB⟩ hK hE hC (c_X7_nextRow l D cy ad L H.size (hL.sub (by decide) (by decide)) M a1 (gI M 25 a1.toNatClampNeg) v25) rfl (hL 20 (by decide) (by decide)) rfl mw_3_181 mw_3_183 mw_0_32 mw_1_7 mw_3_184 rfl yd_X7_nextRow ⟨rfl, rfl⟩ ⟨Nat.le_of_ble_eq_true rfl, Nat.le_of_ble_eq_true rfl⟩ rfl hl.1 rfl (Nat.le_of_ble_eq_true rfl) dX7_step_25 ⟨Nat.le_refl _, Nat.le_refl _⟩) hC (fun r N_ H locs hp hC => ?_)
  obtain ⟨hr_, hM_⟩ := hp
  subst hr_
  rw [hM_] at hC
  obtain ⟨w28, hV⟩ : vp_in a1 5 ∧ (vc_X7_step_n2 a1 x1 (wI M 24 a1.toNatClampNeg (sp_X7_nextRow M a1 (gI M 25 a1.toNatClampNeg)))) := hV
  refine q_iast hx hb hK hC rfl (hL 24 (by decide) (by decide)) rfl w28 rfl dX7_step_28 (fun H locs hC => ?_)
  obtain ⟨M2, eM2⟩ : ∃ z : Mem, z = wI M 24 a1.toNatClampNeg (sp_X7_nextRow M a1 (gI M 25 a1.toNatClampNeg)) := ⟨_, rfl⟩
  rw [← eM2] at hC
  have hT : sp_X7_step M a1 = sp_X7_step_n2 a1 x1 M2 := by rw [eM2]; exact hT
  have hV : vc_X7_step_n2 a1 x1 M2 := by rw [eM2]; exact hV
  refine lv_aload_n hx hb dX7_step_29 rfl (lv_at hl 1 rfl) ?_
  refine q_getr (T := TX7) hx hb hB uw_X7 hown hK hC rfl (hL 20 (by decide) (by decide)) rfl 16 (by decide) rfl rfl (hB _ mw_3_60) dX7_step_30 ?_
  refine lv_iload_n hx hb dX7_step_33 rfl (lv_at hl 2 rfl) ?_
  refine lv_iload_n hx hb dX7_step_34 rfl (lv_at hl 0 rfl) ?_
  have w35 : vp_in a1 5 := hV
  refine q_iast hx hb hK hC rfl (hL 23 (by decide) (by decide)) rfl w35 rfl dX7_step_35 (fun H locs hC => ?_)
  obtain ⟨M3, eM3⟩ : ∃ z : Mem, z = wI M2 23 a1.toNatClampNeg x1 := ⟨_, rfl⟩
  rw [← eM3] at hC
  have hT : sp_X7_step M a1 = sp_X7_step_n1 M3 := by rw [eM3]; exact hT
  exact q_retv hx hb hr hlocks hC hT.symm dX7_step_36
set_option maxHeartbeats 4000000 in
set_option maxRecDepth 100000 in
theorem c_X7_points (l : Launch) (D : va_G) (cy ad : Nat → Nat) (L : List Nat) (sz : Nat) (hL : lr 20 34 L) (M : Mem) (a1 : Int32) : Met l yX7_points (Cond.code yX7_points cX7_points 2 (none) :: BG) ({ frames := 0, cells := 0, slots := 0, locals := 0 }) (va_Pc [.ref (ad 20), .int a1] (PW D cy ad L M sz)) (va_Qv (fun N => N = sp_X7_points M a1) (OW D cy ad L sz) (fA ad L sz)) 0 0 (fA ad L sz) := by
  refine q_start (by decide) (Nat.le_of_ble_eq_true rfl) (fun p e s m below meth c H locs ls hsz hx hb hr hlocks hml hown hB hK hE hC hl => ?_)
  subst hsz
  have hown : s.vm.findClass "MazeBoardModel" = some m.cls := hown
  have hl : lv_has ls 2 [(0, .ref (ad 20)), (1, .int a1)] := hl
  have J65 : ∀ (M4 : Mem) (x5 : Int32) (H : Heap) (locs : List Loc) (ls : Array Slot) (hT : sp_X7_points M a1 = sp_X7_points_B65 M4 x5) (hC : Cx D cy ad R0 L (fA ad L s.heap.size) s M4 H locs) (hl : lv_has ls 2 []), W p l e ({ frames := 0, cells := 0, slots := 0, locals := 0 }) s m ([.ref (ad 20), .int a1] : List Value).toArray below meth c H locs 0 0 (MQ below (va_Qv (fun N => N = sp_X7_points M a1) (OW D cy ad L s.heap.size) (fA ad L s.heap.size)) ([.ref (ad 20), .int a1] : List Value).toArray s 0 0 (fA ad L s.heap.size)) (F0 m 65 ls [.int x5, .ref (ad 20)]) := by
    intro M4 x5 H locs ls  hT hC hl
    have hT : sp_X7_points M a1 = sp_X7_points_n1 (wI M4 20 5 x5) := hT
    refine q_puti (T := TX7) hx hb hB uw_X7 tyX7 tyX7_ok nmX7 hown hK hC rfl (hL 20 (by decide) (by decide)) rfl 5 (by decide) rfl (hB _ mw_3_49) rfl rfl rfl rfl dX7_points_65 (fun H locs hC => ?_)
    obtain ⟨M6, eM6⟩ : ∃ z : Mem, z = wI M4 20 5 x5 := ⟨_, rfl⟩
    rw [← eM6] at hC
    have hT : sp_X7_points M a1 = sp_X7_points_n1 M6 := by rw [eM6]; exact hT
    exact q_retv hx hb hr hlocks hC hT.symm dX7_points_68
  have J42 : ∀ (M4 : Mem) (H : Heap) (locs : List Loc) (ls : Array Slot) (hT : sp_X7_points M a1 = sp_X7_points_B42 M4) (hC : Cx D cy ad R0 L (fA ad L s.heap.size) s M4 H locs) (hl : lv_has ls 2 [(0, .ref (ad 20))]), W p l e ({ frames := 0, cells := 0, slots := 0, locals := 0 }) s m ([.ref (ad 20), .int a1] : List Value).toArray below meth c H locs 0 0 (MQ below (va_Qv (fun N => N = sp_X7_points M a1) (OW D cy ad L s.heap.size) (fA ad L s.heap.size)) ([.ref (ad 20), .int a1] : List Value).toArray s 0 0 (fA ad L s.heap.size)) (F0 m 42 ls []) := by
    intro M4 H locs ls  hT hC hl
    have hT : sp_X7_points M a1 = if (gI M4 20 4) ≤ (gI M4 20 5) then (sp_X7_points_B65 M4 (gI M4 20 5)) else (sp_X7_points_B65 M4 (gI M4 20 4)) := hT
    refine lv_aload_n hx hb dX7_points_42 rfl (lv_at hl 0 rfl) ?_
    refine lv_aload_n hx hb dX7_points_43 rfl (lv_at hl 0 rfl) ?_
    refine q_geti (T := TX7) hx hb hB uw_X7 hown hK hC rfl (hL 20 (by decide) (by decide)) rfl 4 (by decide) rfl (hB _ mw_3_48) dX7_points_44 ?_
    refine lv_aload_n hx hb dX7_points_47 rfl (lv_at hl 0 rfl) ?_
    refine q_geti (T := TX7) hx hb hB uw_X7 hown hK hC rfl (hL 20 (by decide) (by decide)) rfl 5 (by decide) rfl (hB _ mw_3_49) dX7_points_48 ?_
    refine lv_icmp_le (tgt := 61) hx hb dX7_points_51 (by decide) (fun c51 => ?_) (fun c51 => ?_)
    · have hT : sp_X7_points M a1 = sp_X7_points_B65 M4 (gI M4 20 5) := hT.trans (if_pos c51)
      refine lv_aload_n hx hb dX7_points_61 rfl (lv_at hl 0 rfl) ?_
      refine q_geti (T := TX7) hx hb hB uw_X7 hown hK hC rfl (hL 20 (by decide) (by decide)) rfl 5 (by decide) rfl (hB _ mw_3_49) dX7_points_62 ?_
      exact J65 M4 (gI M4 20 5) _ _ _  hT hC (lv_sub hl [] rfl)
    · have hT : sp_X7_points M a1 = sp_X7_points_B65 M4 (gI M4 20 4) := hT.trans (if_neg c51)
      refine lv_aload_n hx hb dX7_points_54 rfl (lv_at hl 0 rfl) ?_
      refine q_geti (T := TX7) hx hb hB uw_X7 hown hK hC rfl (hL 20 (by decide) (by decide)) rfl 4 (by decide) rfl (hB _ mw_3_48) dX7_points_55 ?_
      refine lv_goto (tgt := 65) hx hb dX7_points_58 (by decide) ?_
      exact J65 M4 (gI M4 20 4) _ _ _  hT hC (lv_sub hl [] rfl)
  have hT : sp_X7_points M a1 = sp_X7_points_n4 (wI M 20 4 ((gI M 20 4) + a1)) := rfl
  refine lv_aload_n hx hb dX7_points_0 rfl (lv_at hl 0 rfl) ?_
  refine lv_dup hx hb dX7_points_1 rfl ?_
  refine q_geti (T := TX7) hx hb hB uw_X7 hown hK hC rfl (hL 20 (by decide) (by decide)) rfl 4 (by decide) rfl (hB _ mw_3_48) dX7_points_2 ?_
  refine lv_iload_n hx hb dX7_points_5 rfl (lv_at hl 1 rfl) ?_
  refine lv_iadd hx hb dX7_points_6 ?_
  refine q_puti (T := TX7) hx hb hB uw_X7 tyX7 tyX7_ok nmX7 hown hK hC rfl (hL 20 (by decide) (by decide)) rfl 4 (by decide) rfl (hB _ mw_3_48) rfl rfl rfl rfl dX7_points_7 (fun H locs hC => ?_)
  obtain ⟨M1, eM1⟩ : ∃ z : Mem, z = wI M 20 4 ((gI M 20 4) + a1) := ⟨_, rfl⟩
  rw [← eM1] at hC
  have hT : sp_X7_points M a1 = sp_X7_points_n4 M1 := by rw [eM1]; exact hT
  refine lv_aload_n hx hb dX7_points_10 rfl (lv_at hl 0 rfl) ?_
  refine q_geti (T := TX7) hx hb hB uw_X7 hown hK hC rfl (hL 20 (by decide) (by decide)) rfl 4 (by decide) rfl (hB _ mw_3_48) dX7_points_11 ?_
  refine lv_sipush (v := 3000) hx hb dX7_points_14 (by decide) ?_
  refine lv_icmp_lt (tgt := 42) hx hb dX7_points_17 (by decide) (fun c17 => ?_) (fun c17 => ?_)
  · have hT : sp_X7_points M a1 = sp_X7_points_B42 M1 := hT.trans (if_pos c17)
    exact J42 M1 _ _ _  hT hC (lv_sub hl [0] rfl)
  · have hT : sp_X7_points M a1 = if (gI M1 20 6) = 0 then (sp_X7_points_n3 (wI M1 20 6 1)) else (sp_X7_points_B42 M1) := hT.trans (if_neg c17)
    refine lv_aload_n hx hb dX7_points_20 rfl (lv_at hl 0 rfl) ?_
    refine q_geti (T := TX7) hx hb hB uw_X7 hown hK hC rfl (hL 20 (by decide) (by decide)) rfl 6 (by decide) rfl (hB _ mw_3_50) dX7_points_21 ?_
    refine lv_if_ne (tgt := 42) hx hb dX7_points_24 (by decide) (fun c24 => ?_) (fun c24 => ?_)
    · have hT : sp_X7_points M a1 = sp_X7_points_B42 M1 := hT.trans (if_neg c24)
      exact J42 M1 _ _ _  hT hC (lv_sub hl [0] rfl)
    · have hT : sp_X7_points M a1 = sp_X7_points_n3 (wI M1 20 6 1) := hT.trans (if_pos c24)
      refine lv_aload_n hx hb dX7_points_27 rfl (lv_at hl 0 rfl) ?_
      refine lv_iconst (v := 1) hx hb dX7_points_28 (by decide) ?_
      refine q_puti (T := TX7) hx hb hB uw_X7 tyX7 tyX7_ok nmX7 hown hK hC rfl (hL 20 (by decide) (by decide)) rfl 6 (by decide) rfl (hB _ mw_3_50) rfl rfl (by decide) (by decide) dX7_points_29 (fun H locs hC => ?_)
      obtain ⟨M2, eM2⟩ : ∃ z : Mem, z = wI M1 20 6 1 := ⟨_, rfl⟩
      rw [← eM2] at hC
      have hT : sp_X7_points M a1 = sp_X7_points_n3 M2 := by rw [eM2]; exact hT
      refine lv_aload_n hx hb dX7_points_32 rfl (lv_at hl 0 rfl) ?_
      refine lv_dup hx hb dX7_points_33 rfl ?_
      refine q_geti (T := TX7) hx hb hB uw_X7 hown hK hC rfl (hL 20 (by decide) (by decide)) rfl 7 (by decide) rfl (hB _ mw_3_51) dX7_points_34 ?_
      refine lv_iconst (v := 1) hx hb dX7_points_37 (by decide) ?_
      refine lv_iadd hx hb dX7_points_38 ?_
      refine q_puti (T := TX7) hx hb hB uw_X7 tyX7 tyX7_ok nmX7 hown hK hC rfl (hL 20 (by decide) (by decide)) rfl 7 (by decide) rfl (hB _ mw_3_51) rfl rfl rfl rfl dX7_points_39 (fun H locs hC => ?_)
      obtain ⟨M3, eM3⟩ : ∃ z : Mem, z = wI M2 20 7 ((gI M2 20 7) + 1) := ⟨_, rfl⟩
      rw [← eM3] at hC
      have hT : sp_X7_points M a1 = sp_X7_points_n2 M3 := by rw [eM3]; exact hT
      exact J42 M3 _ _ _  hT hC (lv_sub hl [0] rfl)
set_option maxHeartbeats 4000000 in
set_option maxRecDepth 100000 in
theorem c_X7_scatters (l : Launch) (D : va_G) (cy ad : Nat → Nat) (L : List Nat) (sz : Nat) (hL : lr 20 34 L) (M : Mem)  (hV : vc_X7_scatters M ) : Met l yX7_scatters (Cond.code yX7_scatters cX7_scatters 1 (some .boolean) :: BG) ({ frames := 0, cells := 0, slots := 0, locals := 0 }) (va_Pc [.ref (ad 20)] (PW D cy ad L M sz)) (va_Qi (fun r N => r = sp_X7_scatters M ∧ N = M) (OW D cy ad L sz) (fA ad L sz)) 0 0 (fA ad L sz) := by
  refine q_start (by decide) (Nat.le_of_ble_eq_true rfl) (fun p e s m below meth c H locs ls hsz hx hb hr hlocks hml hown hB hK hE hC hl => ?_)
  subst hsz
  have hown : s.vm.findClass "MazeBoardModel" = some m.cls := hown
  have hl : lv_has ls 1 [(0, .ref (ad 20))] := hl
  have J54 : ∀ (x1 : Int32) (H : Heap) (locs : List Loc) (ls : Array Slot) (hT : sp_X7_scatters M = sp_X7_scatters_B54 x1) (hV : vc_X7_scatters_B54 x1) (hC : Cx D cy ad R0 L (fA ad L s.heap.size) s M H locs) (hl : lv_has ls 1 []), W p l e ({ frames := 0, cells := 0, slots := 0, locals := 0 }) s m ([.ref (ad 20)] : List Value).toArray below meth c H locs 0 0 (MQ below (va_Qi (fun r N => r = sp_X7_scatters M ∧ N = M) (OW D cy ad L s.heap.size) (fA ad L s.heap.size)) ([.ref (ad 20)] : List Value).toArray s 0 0 (fA ad L s.heap.size)) (F0 m 54 ls [.int x1]) := by
    intro x1 H locs ls  hT hV hC hl
    have hT : sp_X7_scatters M = x1 := hT
    have hV : (x1 = 0 ∨ x1 = 1) := hV
    have w54 : x1 = 0 ∨ x1 = 1 := hV
    exact q_retz hx hb hr hlocks hC w54 ⟨hT.symm, rfl⟩ dX7_scatters_54
  have J53 : ∀  (H : Heap) (locs : List Loc) (ls : Array Slot) (hT : sp_X7_scatters M = sp_X7_scatters_B53 ) (hV : vc_X7_scatters_B53 ) (hC : Cx D cy ad R0 L (fA ad L s.heap.size) s M H locs) (hl : lv_has ls 1 []), W p l e ({ frames := 0, cells := 0, slots := 0, locals := 0 }) s m ([.ref (ad 20)] : List Value).toArray below meth c H locs 0 0 (MQ below (va_Qi (fun r N => r = sp_X7_scatters M ∧ N = M) (OW D cy ad L s.heap.size) (fA ad L s.heap.size)) ([.ref (ad 20)] : List Value).toArray s 0 0 (fA ad L s.heap.size)) (F0 m 53 ls []) := by
    intro  H locs ls  hT hV hC hl
    have hT : sp_X7_scatters M = sp_X7_scatters_B54 0 := hT
    have hV : vc_X7_scatters_B54 0 := hV
    refine lv_iconst (v := 0) hx hb dX7_scatters_53 (by decide) ?_
    exact J54 0 _ _ _  hT hV hC (lv_sub hl [] rfl)
  have J49 : ∀  (H : Heap) (locs : List Loc) (ls : Array Slot) (hT : sp_X7_scatters M = sp_X7_scatters_B49 ) (hV : vc_X7_scatters_B49 ) (hC : Cx D cy ad R0 L (fA ad L s.heap.size) s M H locs) (hl : lv_has ls 1 []), W p l e ({ frames := 0, cells := 0, slots := 0, locals := 0 }) s m ([.ref (ad 20)] : List Value).toArray below meth c H locs 0 0 (MQ below (va_Qi (fun r N => r = sp_X7_scatters M ∧ N = M) (OW D cy ad L s.heap.size) (fA ad L s.heap.size)) ([.ref (ad 20)] : List Value).toArray s 0 0 (fA ad L s.heap.size)) (F0 m 49 ls []) := by
    intro  H locs ls  hT hV hC hl
    have hT : sp_X7_scatters M = sp_X7_scatters_B54 1 := hT
    have hV : vc_X7_scatters_B54 1 := hV
    refine lv_iconst (v := 1) hx hb dX7_scatters_49 (by decide) ?_
    refine lv_goto (tgt := 54) hx hb dX7_scatters_50 (by decide) ?_
    exact J54 1 _ _ _  hT hV hC (lv_sub hl [] rfl)
  have J29 : ∀  (H : Heap) (locs : List Loc) (ls : Array Slot) (hT : sp_X7_scatters M = sp_X7_scatters_B29 M) (hV : vc_X7_scatters_B29 M) (hC : Cx D cy ad R0 L (fA ad L s.heap.size) s M H locs) (hl : lv_has ls 1 [(0, .ref (ad 20))]), W p l e ({ frames := 0, cells := 0, slots := 0, locals := 0 }) s m ([.ref (ad 20)] : List Value).toArray below meth c H locs 0 0 (MQ below (va_Qi (fun r N => r = sp_X7_scatters M ∧ N = M) (OW D cy ad L s.heap.size) (fA ad L s.heap.size)) ([.ref (ad 20)] : List Value).toArray s 0 0 (fA ad L s.heap.size)) (F0 m 29 ls []) := by
    intro  H locs ls  hT hV hC hl
    have hT : sp_X7_scatters M = if (gI M 20 10) < 600 then sp_X7_scatters_B53 else (if 660 ≤ (gI M 20 10) then sp_X7_scatters_B53 else sp_X7_scatters_B49) := hT
    have hV : if (gI M 20 10) < 600 then vc_X7_scatters_B53 else (if 660 ≤ (gI M 20 10) then vc_X7_scatters_B53 else vc_X7_scatters_B49) := hV
    refine lv_aload_n hx hb dX7_scatters_29 rfl (lv_at hl 0 rfl) ?_
    refine q_geti (T := TX7) hx hb hB uw_X7 hown hK hC rfl (hL 20 (by decide) (by decide)) rfl 10 (by decide) rfl (hB _ mw_3_54) dX7_scatters_30 ?_
    refine lv_sipush (v := 600) hx hb dX7_scatters_33 (by decide) ?_
    refine lv_icmp_lt (tgt := 53) hx hb dX7_scatters_36 (by decide) (fun c36 => ?_) (fun c36 => ?_)
    · have hT : sp_X7_scatters M = sp_X7_scatters_B53 := hT.trans (if_pos c36)
      have hV : vc_X7_scatters_B53 := iteT hV c36
      exact J53  _ _ _  hT hV hC (lv_sub hl [] rfl)
    · have hT : sp_X7_scatters M = if 660 ≤ (gI M 20 10) then sp_X7_scatters_B53 else sp_X7_scatters_B49 := hT.trans (if_neg c36)
      have hV : if 660 ≤ (gI M 20 10) then vc_X7_scatters_B53 else vc_X7_scatters_B49 := iteF hV c36
      refine lv_aload_n hx hb dX7_scatters_39 rfl (lv_at hl 0 rfl) ?_
      refine q_geti (T := TX7) hx hb hB uw_X7 hown hK hC rfl (hL 20 (by decide) (by decide)) rfl 10 (by decide) rfl (hB _ mw_3_54) dX7_scatters_40 ?_
      refine lv_sipush (v := 660) hx hb dX7_scatters_43 (by decide) ?_
      refine lv_icmp_ge (tgt := 53) hx hb dX7_scatters_46 (by decide) (fun c46 => ?_) (fun c46 => ?_)
      · have hT : sp_X7_scatters M = sp_X7_scatters_B53 := hT.trans (if_pos c46)
        have hV : vc_X7_scatters_B53 := iteT hV c46
        exact J53  _ _ _  hT hV hC (lv_sub hl [] rfl)
      · have hT : sp_X7_scatters M = sp_X7_scatters_B49 := hT.trans (if_neg c46)
        have hV : vc_X7_scatters_B49 := iteF hV c46
        exact J49  _ _ _  hT hV hC (lv_sub hl [] rfl)
  have hT : sp_X7_scatters M = if (gI M 20 10) < 100 then sp_X7_scatters_B49 else (if (gI M 20 10) < 300 then (sp_X7_scatters_B29 M) else (if (gI M 20 10) < 380 then sp_X7_scatters_B49 else (sp_X7_scatters_B29 M))) := rfl
  have hV : if (gI M 20 10) < 100 then vc_X7_scatters_B49 else (if (gI M 20 10) < 300 then vc_X7_scatters_B29 M else (if (gI M 20 10) < 380 then vc_X7_scatters_B49 else vc_X7_scatters_B29 M)) := hV
  refine lv_aload_n hx hb dX7_scatters_0 rfl (lv_at hl 0 rfl) ?_
  refine q_geti (T := TX7) hx hb hB uw_X7 hown hK hC rfl (hL 20 (by decide) (by decide)) rfl 10 (by decide) rfl (hB _ mw_3_54) dX7_scatters_1 ?_
  refine lv_bipush (v := 100) hx hb dX7_scatters_4 (by decide) ?_
  refine lv_icmp_lt (tgt := 49) hx hb dX7_scatters_6 (by decide) (fun c6 => ?_) (fun c6 => ?_)
  · have hT : sp_X7_scatters M = sp_X7_scatters_B49 := hT.trans (if_pos c6)
    have hV : vc_X7_scatters_B49 := iteT hV c6
    exact J49  _ _ _  hT hV hC (lv_sub hl [] rfl)
  · have hT : sp_X7_scatters M = if (gI M 20 10) < 300 then (sp_X7_scatters_B29 M) else (if (gI M 20 10) < 380 then sp_X7_scatters_B49 else (sp_X7_scatters_B29 M)) := hT.trans (if_neg c6)
    have hV : if (gI M 20 10) < 300 then vc_X7_scatters_B29 M else (if (gI M 20 10) < 380 then vc_X7_scatters_B49 else vc_X7_scatters_B29 M) := iteF hV c6
    refine lv_aload_n hx hb dX7_scatters_9 rfl (lv_at hl 0 rfl) ?_
    refine q_geti (T := TX7) hx hb hB uw_X7 hown hK hC rfl (hL 20 (by decide) (by decide)) rfl 10 (by decide) rfl (hB _ mw_3_54) dX7_scatters_10 ?_
    refine lv_sipush (v := 300) hx hb dX7_scatters_13 (by decide) ?_
    refine lv_icmp_lt (tgt := 29) hx hb dX7_scatters_16 (by decide) (fun c16 => ?_) (fun c16 => ?_)
    · have hT : sp_X7_scatters M = sp_X7_scatters_B29 M := hT.trans (if_pos c16)
      have hV : vc_X7_scatters_B29 M := iteT hV c16
      exact J29  _ _ _  hT hV hC (lv_sub hl [0] rfl)
    · have hT : sp_X7_scatters M = if (gI M 20 10) < 380 then sp_X7_scatters_B49 else (sp_X7_scatters_B29 M) := hT.trans (if_neg c16)
      have hV : if (gI M 20 10) < 380 then vc_X7_scatters_B49 else vc_X7_scatters_B29 M := iteF hV c16
      refine lv_aload_n hx hb dX7_scatters_19 rfl (lv_at hl 0 rfl) ?_
      refine q_geti (T := TX7) hx hb hB uw_X7 hown hK hC rfl (hL 20 (by decide) (by decide)) rfl 10 (by decide) rfl (hB _ mw_3_54) dX7_scatters_20 ?_
      refine lv_sipush (v := 380) hx hb dX7_scatters_23 (by decide) ?_
      refine lv_icmp_lt (tgt := 49) hx hb dX7_scatters_26 (by decide) (fun c26 => ?_) (fun c26 => ?_)
      · have hT : sp_X7_scatters M = sp_X7_scatters_B49 := hT.trans (if_pos c26)
        have hV : vc_X7_scatters_B49 := iteT hV c26
        exact J49  _ _ _  hT hV hC (lv_sub hl [] rfl)
      · have hT : sp_X7_scatters M = sp_X7_scatters_B29 M := hT.trans (if_neg c26)
        have hV : vc_X7_scatters_B29 M := iteF hV c26
        exact J29  _ _ _  hT hV hC (lv_sub hl [0] rfl)
set_option maxHeartbeats 4000000 in
set_option maxRecDepth 100000 in
theorem c_X7_calm (l : Launch) (D : va_G) (cy ad : Nat → Nat) (L : List Nat) (sz : Nat) (hL : lr 20 34 L) (M : Mem)  (hV : vc_X7_calm M ) : Met l yX7_calm (Cond.code yX7_calm cX7_calm 2 (none) :: BG) ({ frames := 0, cells := 0, slots := 0, locals := 0 }) (va_Pc [.ref (ad 20)] (PW D cy ad L M sz)) (va_Qv (fun N => N = sp_X7_calm M) (OW D cy ad L sz) (fA ad L sz)) 0 0 (fA ad L sz) := by
  refine q_start (by decide) (Nat.le_of_ble_eq_true rfl) (fun p e s m below meth c H locs ls hsz hx hb hr hlocks hml hown hB hK hE hC hl => ?_)
  subst hsz
  have hown : s.vm.findClass "MazeBoardModel" = some m.cls := hown
  have hl : lv_has ls 2 [(0, .ref (ad 20))] := hl
  have J2 : ∀ (n : Nat) (x1 : Int32) (M2 : Mem) (H : Heap) (locs : List Loc) (ls : Array Slot) (hT : sp_X7_calm M = sp_X7_calm_B2 n x1 M2) (hV : vc_X7_calm_B2 n x1 M2) (hC : Cx D cy ad R0 L (fA ad L s.heap.size) s M2 H locs) (hl : lv_has ls 2 [(0, .ref (ad 20)), (1, .int x1)]), W p l e ({ frames := 0, cells := 0, slots := 0, locals := 0 }) s m ([.ref (ad 20)] : List Value).toArray below meth c H locs 0 0 (MQ below (va_Qv (fun N => N = sp_X7_calm M) (OW D cy ad L s.heap.size) (fA ad L s.heap.size)) ([.ref (ad 20)] : List Value).toArray s 0 0 (fA ad L s.heap.size)) (F0 m 2 ls []) := by
    intro n
    induction n with
    | zero => intro x1 M2 H locs ls  hT hV; exact hV.elim
    | succ n ih =>
      intro x1 M2 H locs ls  hT hV hC hl
      have hT : sp_X7_calm M = if 5 ≤ x1 then M2 else (sp_X7_calm_n2 (sp_X7_calm_B2 n) x1 (wI M2 27 x1.toNatClampNeg 0)) := hT
      have hV : if 5 ≤ x1 then True else (vp_in x1 5 ∧ (vc_X7_calm_n2 (vc_X7_calm_B2 n) x1 (wI M2 27 x1.toNatClampNeg 0))) := hV
      refine lv_iload_n hx hb dX7_calm_2 rfl (lv_at hl 1 rfl) ?_
      refine lv_iconst (v := 5) hx hb dX7_calm_3 (by decide) ?_
      refine lv_icmp_ge (tgt := 20) hx hb dX7_calm_4 (by decide) (fun c4 => ?_) (fun c4 => ?_)
      · have hT : sp_X7_calm M = M2 := hT.trans (if_pos c4)
        exact q_retv hx hb hr hlocks hC hT.symm dX7_calm_20
      · have hT : sp_X7_calm M = sp_X7_calm_n2 (sp_X7_calm_B2 n) x1 (wI M2 27 x1.toNatClampNeg 0) := hT.trans (if_neg c4)
        have hV : vp_in x1 5 ∧ (vc_X7_calm_n2 (vc_X7_calm_B2 n) x1 (wI M2 27 x1.toNatClampNeg 0)) := iteF hV c4
        refine lv_aload_n hx hb dX7_calm_7 rfl (lv_at hl 0 rfl) ?_
        refine q_getr (T := TX7) hx hb hB uw_X7 hown hK hC rfl (hL 20 (by decide) (by decide)) rfl 20 (by decide) rfl rfl (hB _ mw_3_64) dX7_calm_8 ?_
        refine lv_iload_n hx hb dX7_calm_11 rfl (lv_at hl 1 rfl) ?_
        refine lv_iconst (v := 0) hx hb dX7_calm_12 (by decide) ?_
        obtain ⟨w13, hV⟩ : vp_in x1 5 ∧ (vc_X7_calm_n2 (vc_X7_calm_B2 n) x1 (wI M2 27 x1.toNatClampNeg 0)) := hV
        refine q_zast (v := 0) hx hb hK hC rfl (hL 27 (by decide) (by decide)) rfl w13 rfl (by decide) dX7_calm_13 (fun H locs hC => ?_)
        obtain ⟨M3, eM3⟩ : ∃ z : Mem, z = wI M2 27 x1.toNatClampNeg 0 := ⟨_, rfl⟩
        rw [← eM3] at hC
        have hT : sp_X7_calm M = sp_X7_calm_n2 (sp_X7_calm_B2 n) x1 M3 := by rw [eM3]; exact hT
        have hV : vc_X7_calm_n2 (vc_X7_calm_B2 n) x1 M3 := by rw [eM3]; exact hV
        obtain ⟨x4, ex4⟩ : ∃ z : Int32, z = x1 + 1 := ⟨_, rfl⟩
        have hT : sp_X7_calm M = sp_X7_calm_n1 (sp_X7_calm_B2 n) M3 x4 := by rw [ex4]; exact hT
        have hV : vc_X7_calm_n1 (vc_X7_calm_B2 n) M3 x4 := by rw [ex4]; exact hV
        refine lv_iinc (v := x4) (lv' := [(1, .int x4), (0, .ref (ad 20))]) hx hb dX7_calm_14 hl (k := 1) rfl (by rw [ex4]; rfl) (by decide) rfl (fun ls hl => ?_)
        refine lv_goto (tgt := 2) hx hb dX7_calm_17 (by decide) ?_
        exact ih x4 M3 _ _ _  hT hV hC (lv_sub hl [1, 0] rfl)
  have hT : sp_X7_calm M = sp_X7_calm_B2 6 0 M := rfl
  have hV : vc_X7_calm_B2 6 0 M := hV
  refine lv_iconst (v := 0) hx hb dX7_calm_0 (by decide) ?_
  refine lv_istore_n (lv' := [(1, .int 0), (0, .ref (ad 20))]) hx hb dX7_calm_1 rfl hl (by decide) rfl (fun ls hl => ?_)
  exact J2 6 0 M _ _ _  hT hV hC (lv_sub hl [1, 0] rfl)
set_option maxHeartbeats 4000000 in
set_option maxRecDepth 100000 in
theorem c_X7_scare (l : Launch) (D : va_G) (cy ad : Nat → Nat) (L : List Nat) (sz : Nat) (hL : lr 20 34 L) (M : Mem)  (hV : vc_X7_scare M ) : Met l yX7_scare (Cond.code yX7_scare cX7_scare 3 (none) :: BG) ({ frames := 3, cells := 0, slots := 0, locals := 66 }) (va_Pc [.ref (ad 20)] (PW D cy ad L M sz)) (va_Qv (fun N => N = sp_X7_scare M) (OW D cy ad L sz) (fA ad L sz)) 0 0 (fA ad L sz) := by
  refine q_start (by decide) (Nat.le_of_ble_eq_true rfl) (fun p e s m below meth c H locs ls hsz hx hb hr hlocks hml hown hB hK hE hC hl => ?_)
  subst hsz
  have hown : s.vm.findClass "MazeBoardModel" = some m.cls := hown
  have hl : lv_has ls 3 [(0, .ref (ad 20))] := hl
  have J46 : ∀ (n : Nat) (x5 : Int32) (M6 : Mem) (H : Heap) (locs : List Loc) (ls : Array Slot) (hT : sp_X7_scare M = sp_X7_scare_B46 n x5 M6) (hV : vc_X7_scare_B46 n x5 M6) (hC : Cx D cy ad R0 L (fA ad L s.heap.size) s M6 H locs) (hl : lv_has ls 3 [(0, .ref (ad 20)), (1, .int x5)]), W p l e ({ frames := 3, cells := 0, slots := 0, locals := 66 }) s m ([.ref (ad 20)] : List Value).toArray below meth c H locs 0 0 (MQ below (va_Qv (fun N => N = sp_X7_scare M) (OW D cy ad L s.heap.size) (fA ad L s.heap.size)) ([.ref (ad 20)] : List Value).toArray s 0 0 (fA ad L s.heap.size)) (F0 m 46 ls []) := by
    intro n
    induction n with
    | zero => intro x5 M6 H locs ls  hT hV; exact hV.elim
    | succ n ih =>
      have J134 : ∀ (x5 : Int32) (M13 : Mem) (H : Heap) (locs : List Loc) (ls : Array Slot) (hT : sp_X7_scare M = sp_X7_scare_B134 (sp_X7_scare_B46 n) x5 M13) (hV : vc_X7_scare_B134 (vc_X7_scare_B46 n) x5 M13) (hC : Cx D cy ad R0 L (fA ad L s.heap.size) s M13 H locs) (hl : lv_has ls 3 [(0, .ref (ad 20)), (1, .int x5)]), W p l e ({ frames := 3, cells := 0, slots := 0, locals := 66 }) s m ([.ref (ad 20)] : List Value).toArray below meth c H locs 0 0 (MQ below (va_Qv (fun N => N = sp_X7_scare M) (OW D cy ad L s.heap.size) (fA ad L s.heap.size)) ([.ref (ad 20)] : List Value).toArray s 0 0 (fA ad L s.heap.size)) (F0 m 134 ls []) := by
        intro x5 M13 H locs ls  hT hV hC hl
        have hT : sp_X7_scare M = sp_X7_scare_n1 (sp_X7_scare_B46 n) M13 (x5 + 1) := hT
        have hV : vc_X7_scare_n1 (vc_X7_scare_B46 n) M13 (x5 + 1) := hV
        obtain ⟨x14, ex14⟩ : ∃ z : Int32, z = x5 + 1 := ⟨_, rfl⟩
        have hT : sp_X7_scare M = sp_X7_scare_n1 (sp_X7_scare_B46 n) M13 x14 := by rw [ex14]; exact hT
        have hV : vc_X7_scare_n1 (vc_X7_scare_B46 n) M13 x14 := by rw [ex14]; exact hV
        refine lv_iinc (v := x14) (lv' := [(1, .int x14), (0, .ref (ad 20))]) hx hb dX7_scare_134 hl (k := 1) rfl (by rw [ex14]; rfl) (by decide) rfl (fun ls hl => ?_)
        refine lv_goto (tgt := 46) hx hb dX7_scare_137 (by decide) ?_
        exact ih x14 M13 _ _ _  hT hV hC (lv_sub hl [1, 0] rfl)
      intro x5 M6 H locs ls  hT hV hC hl
      have hT : sp_X7_scare M = if 5 ≤ x5 then M6 else (if (gI M6 29 x5.toNatClampNeg) = 0 then (sp_X7_scare_n7 (sp_X7_scare_B46 n) x5 (wI M6 27 x5.toNatClampNeg 1)) else (sp_X7_scare_B134 (sp_X7_scare_B46 n) x5 M6)) := hT
      have hV : if 5 ≤ x5 then True else (vp_in x5 5 ∧ (if (gI M6 29 x5.toNatClampNeg) = 0 then (vp_in x5 5 ∧ (vc_X7_scare_n7 (vc_X7_scare_B46 n) x5 (wI M6 27 x5.toNatClampNeg 1))) else vc_X7_scare_B134 (vc_X7_scare_B46 n) x5 M6)) := hV
      refine lv_iload_n hx hb dX7_scare_46 rfl (lv_at hl 1 rfl) ?_
      refine lv_iconst (v := 5) hx hb dX7_scare_47 (by decide) ?_
      refine lv_icmp_ge (tgt := 140) hx hb dX7_scare_48 (by decide) (fun c48 => ?_) (fun c48 => ?_)
      · have hT : sp_X7_scare M = M6 := hT.trans (if_pos c48)
        exact q_retv hx hb hr hlocks hC hT.symm dX7_scare_140
      · have hT : sp_X7_scare M = if (gI M6 29 x5.toNatClampNeg) = 0 then (sp_X7_scare_n7 (sp_X7_scare_B46 n) x5 (wI M6 27 x5.toNatClampNeg 1)) else (sp_X7_scare_B134 (sp_X7_scare_B46 n) x5 M6) := hT.trans (if_neg c48)
        have hV : vp_in x5 5 ∧ (if (gI M6 29 x5.toNatClampNeg) = 0 then (vp_in x5 5 ∧ (vc_X7_scare_n7 (vc_X7_scare_B46 n) x5 (wI M6 27 x5.toNatClampNeg 1))) else vc_X7_scare_B134 (vc_X7_scare_B46 n) x5 M6) := iteF hV c48
        refine lv_aload_n hx hb dX7_scare_51 rfl (lv_at hl 0 rfl) ?_
        refine q_getr (T := TX7) hx hb hB uw_X7 hown hK hC rfl (hL 20 (by decide) (by decide)) rfl 22 (by decide) rfl rfl (hB _ mw_3_66) dX7_scare_52 ?_
        refine lv_iload_n hx hb dX7_scare_55 rfl (lv_at hl 1 rfl) ?_
        obtain ⟨w56, hV⟩ : vp_in x5 5 ∧ (if (gI M6 29 x5.toNatClampNeg) = 0 then (vp_in x5 5 ∧ (vc_X7_scare_n7 (vc_X7_scare_B46 n) x5 (wI M6 27 x5.toNatClampNeg 1))) else vc_X7_scare_B134 (vc_X7_scare_B46 n) x5 M6) := hV
        refine q_zald hx hb hK hC rfl (hL 29 (by decide) (by decide)) rfl w56 rfl dX7_scare_56 ?_
        refine lv_if_ne (tgt := 134) hx hb dX7_scare_57 (by decide) (fun c57 => ?_) (fun c57 => ?_)
        · have hT : sp_X7_scare M = sp_X7_scare_B134 (sp_X7_scare_B46 n) x5 M6 := hT.trans (if_neg c57)
          have hV : vc_X7_scare_B134 (vc_X7_scare_B46 n) x5 M6 := iteF hV c57
          exact J134 x5 M6 _ _ _  hT hV hC (lv_sub hl [0, 1] rfl)
        · have hT : sp_X7_scare M = sp_X7_scare_n7 (sp_X7_scare_B46 n) x5 (wI M6 27 x5.toNatClampNeg 1) := hT.trans (if_pos c57)
          have hV : vp_in x5 5 ∧ (vc_X7_scare_n7 (vc_X7_scare_B46 n) x5 (wI M6 27 x5.toNatClampNeg 1)) := iteT hV c57
          refine lv_aload_n hx hb dX7_scare_60 rfl (lv_at hl 0 rfl) ?_
          refine q_getr (T := TX7) hx hb hB uw_X7 hown hK hC rfl (hL 20 (by decide) (by decide)) rfl 20 (by decide) rfl rfl (hB _ mw_3_64) dX7_scare_61 ?_
          refine lv_iload_n hx hb dX7_scare_64 rfl (lv_at hl 1 rfl) ?_
          refine lv_iconst (v := 1) hx hb dX7_scare_65 (by decide) ?_
          obtain ⟨w66, hV⟩ : vp_in x5 5 ∧ (vc_X7_scare_n7 (vc_X7_scare_B46 n) x5 (wI M6 27 x5.toNatClampNeg 1)) := hV
          refine q_zast (v := 1) hx hb hK hC rfl (hL 27 (by decide) (by decide)) rfl w66 rfl (by decide) dX7_scare_66 (fun H locs hC => ?_)
          obtain ⟨M7, eM7⟩ : ∃ z : Mem, z = wI M6 27 x5.toNatClampNeg 1 := ⟨_, rfl⟩
          rw [← eM7] at hC
          have hT : sp_X7_scare M = sp_X7_scare_n7 (sp_X7_scare_B46 n) x5 M7 := by rw [eM7]; exact hT
          have hV : vc_X7_scare_n7 (vc_X7_scare_B46 n) x5 M7 := by rw [eM7]; exact hV
          refine lv_aload_n hx hb dX7_scare_67 rfl (lv_at hl 0 rfl) ?_
          refine q_getr (T := TX7) hx hb hB uw_X7 hown hK hC rfl (hL 20 (by decide) (by decide)) rfl 18 (by decide) rfl rfl (hB _ mw_3_62) dX7_scare_68 ?_
          refine lv_iload_n hx hb dX7_scare_71 rfl (lv_at hl 1 rfl) ?_
          obtain ⟨w72, hV⟩ : vp_in x5 5 ∧ (vc_X7_scare_n6 (vc_X7_scare_B46 n) x5 M7 (((gI M7 25 x5.toNatClampNeg) + 2) &&& 3)) := hV
          refine q_iald hx hb hK hC rfl (hL 25 (by decide) (by decide)) rfl w72 rfl dX7_scare_72 ?_
          refine lv_iconst (v := 2) hx hb dX7_scare_73 (by decide) ?_
          refine lv_iadd hx hb dX7_scare_74 ?_
          refine lv_iconst (v := 3) hx hb dX7_scare_75 (by decide) ?_
          refine lv_iand hx hb dX7_scare_76 ?_
          refine lv_topi (fun x8 ex8 => ?_)
          have hT : sp_X7_scare M = sp_X7_scare_n6 (sp_X7_scare_B46 n) x5 M7 x8 := by rw [ex8]; exact hT
          have hV : vc_X7_scare_n6 (vc_X7_scare_B46 n) x5 M7 x8 := by rw [ex8]; exact hV
          refine lv_istore_n (lv' := [(2, .int x8), (0, .ref (ad 20)), (1, .int x5)]) hx hb dX7_scare_77 rfl hl (by decide) rfl (fun ls hl => ?_)
          refine lv_aload_n hx hb dX7_scare_78 rfl (lv_at hl 1 rfl) ?_
          refine q_getr (T := TX7) hx hb hB uw_X7 hown hK hC rfl (hL 20 (by decide) (by decide)) rfl 19 (by decide) rfl rfl (hB _ mw_3_63) dX7_scare_79 ?_
          refine lv_iload_n hx hb dX7_scare_82 rfl (lv_at hl 2 rfl) ?_
          obtain ⟨w83, hV⟩ : vp_in x5 5 ∧ (if (Op.cmpValue (FP.fcmp (gF M7 26 x5.toNatClampNeg) FP.fconst0) .l) = 0 then (vc_X7_open M7 x5 x8 ∧ (if (sp_X7_open M7 x5 x8) = 0 then vc_X7_scare_B134 (vc_X7_scare_B46 n) x5 M7 else (vp_in x5 5 ∧ (vc_X7_scare_n2 (vc_X7_scare_B46 n) x5 (wI M7 25 x5.toNatClampNeg x8))))) else (vc_X7_step M7 x5 ∧ (vc_X7_scare_n5 (vc_X7_scare_B46 n) x5 x8 (sp_X7_step M7 x5)))) := hV
          refine q_fald hx hb hK hC rfl (hL 26 (by decide) (by decide)) rfl w83 rfl dX7_scare_83 ?_
          refine lv_fconst0 hx hb dX7_scare_84 ?_
          refine lv_fcmp hx hb dX7_scare_85 ?_
          refine lv_if_eq (tgt := 118) hx hb dX7_scare_86 (by decide) (fun c86 => ?_) (fun c86 => ?_)
          · have hT : sp_X7_scare M = if (sp_X7_open M7 x5 x8) = 0 then (sp_X7_scare_B134 (sp_X7_scare_B46 n) x5 M7) else (sp_X7_scare_n2 (sp_X7_scare_B46 n) x5 (wI M7 25 x5.toNatClampNeg x8)) := hT.trans (if_pos c86)
            have hV : vc_X7_open M7 x5 x8 ∧ (if (sp_X7_open M7 x5 x8) = 0 then vc_X7_scare_B134 (vc_X7_scare_B46 n) x5 M7 else (vp_in x5 5 ∧ (vc_X7_scare_n2 (vc_X7_scare_B46 n) x5 (wI M7 25 x5.toNatClampNeg x8)))) := iteT hV c86
            refine lv_aload_n hx hb dX7_scare_118 rfl (lv_at hl 1 rfl) ?_
            refine lv_iload_n hx hb dX7_scare_119 rfl (lv_at hl 2 rfl) ?_
            refine lv_iload_n hx hb dX7_scare_120 rfl (lv_at hl 0 rfl) ?_
            obtain ⟨v121, hV⟩ : vc_X7_open M7 x5 x8 ∧ (if (sp_X7_open M7 x5 x8) = 0 then vc_X7_scare_B134 (vc_X7_scare_B46 n) x5 M7 else (vp_in x5 5 ∧ (vc_X7_scare_n2 (vc_X7_scare_B46 n) x5 (wI M7 25 x5.toNatClampNeg x8)))) := hV
            refine q_Ci (q_V (own := "MazeBoardModel") (y := yX7_open) (As := [.int x5, .int x8]) (rest := []) ⟨hx, hb, hml, hown, hB⟩ hK hE hC (c_X7_open l D cy ad L H.size (hL.sub (by decide) (by decide)) M7 x5 x8 v121) rfl (hL 20 (by decide) (by decide)) rfl mw_3_177 mw_3_179 mw_0_31 mw_1_7 mw_3_180 rfl yd_X7_open ⟨rfl, rfl⟩ ⟨Nat.le_of_ble_eq_true rfl, Nat.le_of_ble_eq_true rfl⟩ rfl hl.1 rfl (Nat.le_of_ble_eq_true rfl) dX7_scare_121 ⟨Nat.le_refl _, Nat.le_refl _⟩) hC (fun r N_ H locs hp hC => ?_)
            obtain ⟨hr_, hM_⟩ := hp
            subst hr_
            rw [hM_] at hC
            refine lv_if_eq (tgt := 134) hx hb dX7_scare_124 (by decide) (fun c124 => ?_) (fun c124 => ?_)
            · have hT : sp_X7_scare M = sp_X7_scare_B134 (sp_X7_scare_B46 n) x5 M7 := hT.trans (if_pos c124)
              have hV : vc_X7_scare_B134 (vc_X7_scare_B46 n) x5 M7 := iteT hV c124
              exact J134 x5 M7 _ _ _  hT hV hC (lv_sub hl [1, 2] rfl)
            · have hT : sp_X7_scare M = sp_X7_scare_n2 (sp_X7_scare_B46 n) x5 (wI M7 25 x5.toNatClampNeg x8) := hT.trans (if_neg c124)
              have hV : vp_in x5 5 ∧ (vc_X7_scare_n2 (vc_X7_scare_B46 n) x5 (wI M7 25 x5.toNatClampNeg x8)) := iteF hV c124
              refine lv_aload_n hx hb dX7_scare_127 rfl (lv_at hl 1 rfl) ?_
              refine q_getr (T := TX7) hx hb hB uw_X7 hown hK hC rfl (hL 20 (by decide) (by decide)) rfl 18 (by decide) rfl rfl (hB _ mw_3_62) dX7_scare_128 ?_
              refine lv_iload_n hx hb dX7_scare_131 rfl (lv_at hl 2 rfl) ?_
              refine lv_iload_n hx hb dX7_scare_132 rfl (lv_at hl 0 rfl) ?_
              obtain ⟨w133, hV⟩ : vp_in x5 5 ∧ (vc_X7_scare_n2 (vc_X7_scare_B46 n) x5 (wI M7 25 x5.toNatClampNeg x8)) := hV
              refine q_iast hx hb hK hC rfl (hL 25 (by decide) (by decide)) rfl w133 rfl dX7_scare_133 (fun H locs hC => ?_)
              obtain ⟨M9, eM9⟩ : ∃ z : Mem, z = wI M7 25 x5.toNatClampNeg x8 := ⟨_, rfl⟩
              rw [← eM9] at hC
              have hT : sp_X7_scare M = sp_X7_scare_n2 (sp_X7_scare_B46 n) x5 M9 := by rw [eM9]; exact hT
              have hV : vc_X7_scare_n2 (vc_X7_scare_B46 n) x5 M9 := by rw [eM9]; exact hV
              exact J134 x5 M9 _ _ _  hT hV hC (lv_sub hl [1, 2] rfl)
          · have hT : sp_X7_scare M = sp_X7_scare_n5 (sp_X7_scare_B46 n) x5 x8 (sp_X7_step M7 x5) := hT.trans (if_neg c86)
            have hV : vc_X7_step M7 x5 ∧ (vc_X7_scare_n5 (vc_X7_scare_B46 n) x5 x8 (sp_X7_step M7 x5)) := iteF hV c86
            refine lv_aload_n hx hb dX7_scare_89 rfl (lv_at hl 1 rfl) ?_
            refine lv_iload_n hx hb dX7_scare_90 rfl (lv_at hl 2 rfl) ?_
            obtain ⟨v91, hV⟩ : vc_X7_step M7 x5 ∧ (vc_X7_scare_n5 (vc_X7_scare_B46 n) x5 x8 (sp_X7_step M7 x5)) := hV
            refine q_Cv (q_V (own := "MazeBoardModel") (y := yX7_step) (As := [.int x5]) (rest := []) ⟨hx, hb, hml, hown, hB⟩ hK hE hC (c_X7_step l D cy ad L H.size (hL.sub (by decide) (by decide)) M7 x5 v91) rfl (hL 20 (by decide) (by decide)) rfl mw_3_200 mw_3_202 mw_0_34 mw_1_7 mw_3_203 rfl yd_X7_step ⟨rfl, rfl⟩ ⟨Nat.le_of_ble_eq_true rfl, Nat.le_of_ble_eq_true rfl⟩ rfl hl.1 rfl (Nat.le_of_ble_eq_true rfl) dX7_scare_91 ⟨Nat.le_refl _, Nat.le_refl _⟩) hC (fun M10 H locs eM10 hC => ?_)
            have hT : sp_X7_scare M = sp_X7_scare_n5 (sp_X7_scare_B46 n) x5 x8 M10 := by rw [eM10]; exact hT
            have hV : vc_X7_scare_n5 (vc_X7_scare_B46 n) x5 x8 M10 := by rw [eM10]; exact hV
            refine lv_aload_n hx hb dX7_scare_94 rfl (lv_at hl 1 rfl) ?_
            refine q_getr (T := TX7) hx hb hB uw_X7 hown hK hC rfl (hL 20 (by decide) (by decide)) rfl 19 (by decide) rfl rfl (hB _ mw_3_63) dX7_scare_95 ?_
            refine lv_iload_n hx hb dX7_scare_98 rfl (lv_at hl 2 rfl) ?_
            refine lv_fconst1 hx hb dX7_scare_99 ?_
            refine lv_aload_n hx hb dX7_scare_100 rfl (lv_at hl 1 rfl) ?_
            refine q_getr (T := TX7) hx hb hB uw_X7 hown hK hC rfl (hL 20 (by decide) (by decide)) rfl 19 (by decide) rfl rfl (hB _ mw_3_63) dX7_scare_101 ?_
            refine lv_iload_n hx hb dX7_scare_104 rfl (lv_at hl 2 rfl) ?_
            obtain ⟨w105, hV⟩ : vp_in x5 5 ∧ ((vf_n32 (FP.fsub FP.fconst1 (gF M10 26 x5.toNatClampNeg))) ∧ (vp_in x5 5 ∧ (vc_X7_scare_n4 (vc_X7_scare_B46 n) x5 x8 (wF M10 26 x5.toNatClampNeg (FP.fsub FP.fconst1 (gF M10 26 x5.toNatClampNeg)))))) := hV
            refine q_fald hx hb hK hC rfl (hL 26 (by decide) (by decide)) rfl w105 rfl dX7_scare_105 ?_
            obtain ⟨w106, hV⟩ : (vf_n32 (FP.fsub FP.fconst1 (gF M10 26 x5.toNatClampNeg))) ∧ (vp_in x5 5 ∧ (vc_X7_scare_n4 (vc_X7_scare_B46 n) x5 x8 (wF M10 26 x5.toNatClampNeg (FP.fsub FP.fconst1 (gF M10 26 x5.toNatClampNeg))))) := hV
            refine lv_fsub hx hb dX7_scare_106 w106 ?_
            obtain ⟨w107, hV⟩ : vp_in x5 5 ∧ (vc_X7_scare_n4 (vc_X7_scare_B46 n) x5 x8 (wF M10 26 x5.toNatClampNeg (FP.fsub FP.fconst1 (gF M10 26 x5.toNatClampNeg)))) := hV
            refine q_fast hx hb hK hC rfl (hL 26 (by decide) (by decide)) rfl w107 rfl dX7_scare_107 (fun H locs hC => ?_)
            obtain ⟨M11, eM11⟩ : ∃ z : Mem, z = wF M10 26 x5.toNatClampNeg (FP.fsub FP.fconst1 (gF M10 26 x5.toNatClampNeg)) := ⟨_, rfl⟩
            rw [← eM11] at hC
            have hT : sp_X7_scare M = sp_X7_scare_n4 (sp_X7_scare_B46 n) x5 x8 M11 := by rw [eM11]; exact hT
            have hV : vc_X7_scare_n4 (vc_X7_scare_B46 n) x5 x8 M11 := by rw [eM11]; exact hV
            refine lv_aload_n hx hb dX7_scare_108 rfl (lv_at hl 1 rfl) ?_
            refine q_getr (T := TX7) hx hb hB uw_X7 hown hK hC rfl (hL 20 (by decide) (by decide)) rfl 18 (by decide) rfl rfl (hB _ mw_3_62) dX7_scare_109 ?_
            refine lv_iload_n hx hb dX7_scare_112 rfl (lv_at hl 2 rfl) ?_
            refine lv_iload_n hx hb dX7_scare_113 rfl (lv_at hl 0 rfl) ?_
            obtain ⟨w114, hV⟩ : vp_in x5 5 ∧ (vc_X7_scare_n3 (vc_X7_scare_B46 n) x5 (wI M11 25 x5.toNatClampNeg x8)) := hV
            refine q_iast hx hb hK hC rfl (hL 25 (by decide) (by decide)) rfl w114 rfl dX7_scare_114 (fun H locs hC => ?_)
            obtain ⟨M12, eM12⟩ : ∃ z : Mem, z = wI M11 25 x5.toNatClampNeg x8 := ⟨_, rfl⟩
            rw [← eM12] at hC
            have hT : sp_X7_scare M = sp_X7_scare_n3 (sp_X7_scare_B46 n) x5 M12 := by rw [eM12]; exact hT
            have hV : vc_X7_scare_n3 (vc_X7_scare_B46 n) x5 M12 := by rw [eM12]; exact hV
            refine lv_goto (tgt := 134) hx hb dX7_scare_115 (by decide) ?_
            exact J134 x5 M12 _ _ _  hT hV hC (lv_sub hl [1, 2] rfl)
  have J36 : ∀ (M1 : Mem) (x2 : Int32) (H : Heap) (locs : List Loc) (ls : Array Slot) (hT : sp_X7_scare M = sp_X7_scare_B36 M1 x2) (hV : vc_X7_scare_B36 M1 x2) (hC : Cx D cy ad R0 L (fA ad L s.heap.size) s M1 H locs) (hl : lv_has ls 3 [(0, .ref (ad 20))]), W p l e ({ frames := 3, cells := 0, slots := 0, locals := 66 }) s m ([.ref (ad 20)] : List Value).toArray below meth c H locs 0 0 (MQ below (va_Qv (fun N => N = sp_X7_scare M) (OW D cy ad L s.heap.size) (fA ad L s.heap.size)) ([.ref (ad 20)] : List Value).toArray s 0 0 (fA ad L s.heap.size)) (F0 m 36 ls [.int x2, .ref (ad 20)]) := by
    intro M1 x2 H locs ls  hT hV hC hl
    have hT : sp_X7_scare M = sp_X7_scare_n9 (wI M1 20 9 x2) := hT
    have hV : vc_X7_scare_n9 (wI M1 20 9 x2) := hV
    refine q_puti (T := TX7) hx hb hB uw_X7 tyX7 tyX7_ok nmX7 hown hK hC rfl (hL 20 (by decide) (by decide)) rfl 9 (by decide) rfl (hB _ mw_3_53) rfl rfl rfl rfl dX7_scare_36 (fun H locs hC => ?_)
    obtain ⟨M3, eM3⟩ : ∃ z : Mem, z = wI M1 20 9 x2 := ⟨_, rfl⟩
    rw [← eM3] at hC
    have hT : sp_X7_scare M = sp_X7_scare_n9 M3 := by rw [eM3]; exact hT
    have hV : vc_X7_scare_n9 M3 := by rw [eM3]; exact hV
    refine lv_aload_n hx hb dX7_scare_39 rfl (lv_at hl 0 rfl) ?_
    refine lv_iconst (v := 0) hx hb dX7_scare_40 (by decide) ?_
    refine q_puti (T := TX7) hx hb hB uw_X7 tyX7 tyX7_ok nmX7 hown hK hC rfl (hL 20 (by decide) (by decide)) rfl 11 (by decide) rfl (hB _ mw_3_55) rfl rfl rfl rfl dX7_scare_41 (fun H locs hC => ?_)
    obtain ⟨M4, eM4⟩ : ∃ z : Mem, z = wI M3 20 11 0 := ⟨_, rfl⟩
    rw [← eM4] at hC
    have hT : sp_X7_scare M = sp_X7_scare_n8 M4 := by rw [eM4]; exact hT
    have hV : vc_X7_scare_n8 M4 := by rw [eM4]; exact hV
    refine lv_iconst (v := 1) hx hb dX7_scare_44 (by decide) ?_
    refine lv_istore_n (lv' := [(1, .int 1), (0, .ref (ad 20))]) hx hb dX7_scare_45 rfl hl (by decide) rfl (fun ls hl => ?_)
    exact J46 6 1 M4 _ _ _  hT hV hC (lv_sub hl [1, 0] rfl)
  have hT : sp_X7_scare M = sp_X7_scare_n10 (wI M 20 29 1) := rfl
  have hV : vc_X7_scare_n10 (wI M 20 29 1) := hV
  refine lv_aload_n hx hb dX7_scare_0 rfl (lv_at hl 0 rfl) ?_
  refine lv_iconst (v := 1) hx hb dX7_scare_1 (by decide) ?_
  refine q_puti (T := TX7) hx hb hB uw_X7 tyX7 tyX7_ok nmX7 hown hK hC rfl (hL 20 (by decide) (by decide)) rfl 29 (by decide) rfl (hB _ mw_3_73) rfl rfl (by decide) (by decide) dX7_scare_2 (fun H locs hC => ?_)
  obtain ⟨M1, eM1⟩ : ∃ z : Mem, z = wI M 20 29 1 := ⟨_, rfl⟩
  rw [← eM1] at hC
  have hT : sp_X7_scare M = sp_X7_scare_n10 M1 := by rw [eM1]; exact hT
  have hV : vc_X7_scare_n10 M1 := by rw [eM1]; exact hV
  refine lv_aload_n hx hb dX7_scare_5 rfl (lv_at hl 0 rfl) ?_
  refine lv_bipush (v := 100) hx hb dX7_scare_6 (by decide) ?_
  refine lv_bipush (v := 15) hx hb dX7_scare_8 (by decide) ?_
  refine lv_aload_n hx hb dX7_scare_10 rfl (lv_at hl 0 rfl) ?_
  refine q_geti (T := TX7) hx hb hB uw_X7 hown hK hC rfl (hL 20 (by decide) (by decide)) rfl 8 (by decide) rfl (hB _ mw_3_52) dX7_scare_11 ?_
  refine lv_imul hx hb dX7_scare_14 ?_
  refine lv_isub hx hb dX7_scare_15 ?_
  refine lv_bipush (v := 10) hx hb dX7_scare_16 (by decide) ?_
  refine lv_icmp_ge (tgt := 26) hx hb dX7_scare_18 (by decide) (fun c18 => ?_) (fun c18 => ?_)
  · have hT : sp_X7_scare M = sp_X7_scare_B36 M1 (100 - (15 * (gI M1 20 8))) := hT.trans (if_pos c18)
    have hV : vc_X7_scare_B36 M1 (100 - (15 * (gI M1 20 8))) := iteT hV c18
    refine lv_bipush (v := 100) hx hb dX7_scare_26 (by decide) ?_
    refine lv_bipush (v := 15) hx hb dX7_scare_28 (by decide) ?_
    refine lv_aload_n hx hb dX7_scare_30 rfl (lv_at hl 0 rfl) ?_
    refine q_geti (T := TX7) hx hb hB uw_X7 hown hK hC rfl (hL 20 (by decide) (by decide)) rfl 8 (by decide) rfl (hB _ mw_3_52) dX7_scare_31 ?_
    refine lv_imul hx hb dX7_scare_34 ?_
    refine lv_isub hx hb dX7_scare_35 ?_
    exact J36 M1 (100 - (15 * (gI M1 20 8))) _ _ _  hT hV hC (lv_sub hl [0] rfl)
  · have hT : sp_X7_scare M = sp_X7_scare_B36 M1 10 := hT.trans (if_neg c18)
    have hV : vc_X7_scare_B36 M1 10 := iteF hV c18
    refine lv_bipush (v := 10) hx hb dX7_scare_21 (by decide) ?_
    refine lv_goto (tgt := 36) hx hb dX7_scare_23 (by decide) ?_
    exact J36 M1 10 _ _ _  hT hV hC (lv_sub hl [0] rfl)
set_option maxHeartbeats 4000000 in
set_option maxRecDepth 100000 in
theorem c_X7_player (l : Launch) (D : va_G) (cy ad : Nat → Nat) (L : List Nat) (sz : Nat) (hL : lr 20 34 L) (M : Mem)  (hV : vc_X7_player M ) : Met l yX7_player (Cond.code yX7_player cX7_player 4 (none) :: BG) ({ frames := 4, cells := 0, slots := 0, locals := 88 }) (va_Pc [.ref (ad 20)] (PW D cy ad L M sz)) (va_Qv (fun N => N = sp_X7_player M) (OW D cy ad L sz) (fA ad L sz)) 0 0 (fA ad L sz) := by
  refine q_start (by decide) (Nat.le_of_ble_eq_true rfl) (fun p e s m below meth c H locs ls hsz hx hb hr hlocks hml hown hB hK hE hC hl => ?_)
  subst hsz
  have hown : s.vm.findClass "MazeBoardModel" = some m.cls := hown
  have hl : lv_has ls 4 [(0, .ref (ad 20))] := hl
  have J260 : ∀ (M18 : Mem) (H : Heap) (locs : List Loc) (ls : Array Slot) (hT : sp_X7_player M = sp_X7_player_B260 M18) (hC : Cx D cy ad R0 L (fA ad L s.heap.size) s M18 H locs) (hl : lv_has ls 4 []), W p l e ({ frames := 4, cells := 0, slots := 0, locals := 88 }) s m ([.ref (ad 20)] : List Value).toArray below meth c H locs 0 0 (MQ below (va_Qv (fun N => N = sp_X7_player M) (OW D cy ad L s.heap.size) (fA ad L s.heap.size)) ([.ref (ad 20)] : List Value).toArray s 0 0 (fA ad L s.heap.size)) (F0 m 260 ls []) := by
    intro M18 H locs ls  hT hC hl
    have hT : sp_X7_player M = M18 := hT
    exact q_retv hx hb hr hlocks hC hT.symm dX7_player_260
  have J248 : ∀ (x11 : Int32) (M14 : Mem) (x15 : Int32) (H : Heap) (locs : List Loc) (ls : Array Slot) (hT : sp_X7_player M = sp_X7_player_B248 x11 M14 x15) (hV : vc_X7_player_B248 x11 M14 x15) (hC : Cx D cy ad R0 L (fA ad L s.heap.size) s M14 H locs) (hl : lv_has ls 4 [(0, .ref (ad 20)), (3, .int x11)]), W p l e ({ frames := 4, cells := 0, slots := 0, locals := 88 }) s m ([.ref (ad 20)] : List Value).toArray below meth c H locs 0 0 (MQ below (va_Qv (fun N => N = sp_X7_player M) (OW D cy ad L s.heap.size) (fA ad L s.heap.size)) ([.ref (ad 20)] : List Value).toArray s 0 0 (fA ad L s.heap.size)) (F0 m 248 ls [.int x15, .ref (ad 20)]) := by
    intro x11 M14 x15 H locs ls  hT hV hC hl
    have hT : sp_X7_player M = sp_X7_player_n2 x11 (sp_X7_points M14 x15) := hT
    have hV : vc_X7_player_n2 x11 (sp_X7_points M14 x15) := hV
    refine q_Cv (q_V (own := "MazeBoardModel") (y := yX7_points) (As := [.int x15]) (rest := []) ⟨hx, hb, hml, hown, hB⟩ hK hE hC (c_X7_points l D cy ad L H.size (hL.sub (by decide) (by decide)) M14 x15) rfl (hL 20 (by decide) (by decide)) rfl mw_3_204 mw_3_206 mw_0_35 mw_1_7 mw_3_207 rfl yd_X7_points ⟨rfl, rfl⟩ ⟨Nat.le_of_ble_eq_true rfl, Nat.le_of_ble_eq_true rfl⟩ rfl hl.1 rfl (Nat.le_of_ble_eq_true rfl) dX7_player_248 ⟨Nat.le_refl _, Nat.le_refl _⟩) hC (fun M16 H locs eM16 hC => ?_)
    have hT : sp_X7_player M = sp_X7_player_n2 x11 M16 := by rw [eM16]; exact hT
    have hV : vc_X7_player_n2 x11 M16 := by rw [eM16]; exact hV
    refine lv_iload_n hx hb dX7_player_251 rfl (lv_at hl 1 rfl) ?_
    refine lv_iconst (v := 3) hx hb dX7_player_252 (by decide) ?_
    refine lv_icmp_ne (tgt := 260) hx hb dX7_player_253 (by decide) (fun c253 => ?_) (fun c253 => ?_)
    · have hT : sp_X7_player M = sp_X7_player_B260 M16 := hT.trans (if_neg c253)
      exact J260 M16 _ _ _  hT hC (lv_sub hl [] rfl)
    · have hT : sp_X7_player M = sp_X7_player_n1 (sp_X7_scare M16) := hT.trans (if_pos c253)
      have hV : vc_X7_scare M16 := iteT hV c253
      refine lv_aload_n hx hb dX7_player_256 rfl (lv_at hl 0 rfl) ?_
      have v257 : vc_X7_scare M16 := hV
      refine q_Cv (q_V (own := "MazeBoardModel") (y := yX7_scare) (As := []) (rest := []) ⟨hx, hb, hml, hown, hB⟩ hK hE hC (c_X7_scare l D cy ad L H.size (hL.sub (by decide) (by decide)) M16  v257) rfl (hL 20 (by decide) (by decide)) rfl mw_3_208 mw_3_210 mw_0_36 mw_1_7 mw_3_211 rfl yd_X7_scare ⟨rfl, rfl⟩ ⟨Nat.le_of_ble_eq_true rfl, Nat.le_of_ble_eq_true rfl⟩ rfl hl.1 rfl (Nat.le_of_ble_eq_true rfl) dX7_player_257 ⟨Nat.le_refl _, Nat.le_refl _⟩) hC (fun M17 H locs eM17 hC => ?_)
      have hT : sp_X7_player M = sp_X7_player_n1 M17 := by rw [eM17]; exact hT
      exact J260 M17 _ _ _  hT hC (lv_sub hl [] rfl)
  have J232 : ∀ (x11 : Int32) (M12 : Mem) (x13 : Int32) (H : Heap) (locs : List Loc) (ls : Array Slot) (hT : sp_X7_player M = sp_X7_player_B232 x11 M12 x13) (hV : vc_X7_player_B232 x11 M12 x13) (hC : Cx D cy ad R0 L (fA ad L s.heap.size) s M12 H locs) (hl : lv_has ls 4 [(0, .ref (ad 20)), (3, .int x11)]), W p l e ({ frames := 4, cells := 0, slots := 0, locals := 88 }) s m ([.ref (ad 20)] : List Value).toArray below meth c H locs 0 0 (MQ below (va_Qv (fun N => N = sp_X7_player M) (OW D cy ad L s.heap.size) (fA ad L s.heap.size)) ([.ref (ad 20)] : List Value).toArray s 0 0 (fA ad L s.heap.size)) (F0 m 232 ls [.int x13, .ref (ad 20)]) := by
    intro x11 M12 x13 H locs ls  hT hV hC hl
    have hT : sp_X7_player M = sp_X7_player_n3 x11 (wI M12 20 28 x13) := hT
    have hV : (x13 = 0 ∨ x13 = 1) ∧ (vc_X7_player_n3 x11 (wI M12 20 28 x13)) := hV
    obtain ⟨w232, hV⟩ : (x13 = 0 ∨ x13 = 1) ∧ (vc_X7_player_n3 x11 (wI M12 20 28 x13)) := hV
    refine q_puti (T := TX7) hx hb hB uw_X7 tyX7 tyX7_ok nmX7 hown hK hC rfl (hL 20 (by decide) (by decide)) rfl 28 (by decide) rfl (hB _ mw_3_72) rfl rfl (bo_n w232) (bo_f w232) dX7_player_232 (fun H locs hC => ?_)
    obtain ⟨M14, eM14⟩ : ∃ z : Mem, z = wI M12 20 28 x13 := ⟨_, rfl⟩
    rw [← eM14] at hC
    have hT : sp_X7_player M = sp_X7_player_n3 x11 M14 := by rw [eM14]; exact hT
    have hV : vc_X7_player_n3 x11 M14 := by rw [eM14]; exact hV
    refine lv_aload_n hx hb dX7_player_235 rfl (lv_at hl 0 rfl) ?_
    refine lv_iload_n hx hb dX7_player_236 rfl (lv_at hl 1 rfl) ?_
    refine lv_iconst (v := 2) hx hb dX7_player_237 (by decide) ?_
    refine lv_icmp_ne (tgt := 246) hx hb dX7_player_238 (by decide) (fun c238 => ?_) (fun c238 => ?_)
    · have hT : sp_X7_player M = sp_X7_player_B248 x11 M14 50 := hT.trans (if_neg c238)
      have hV : vc_X7_player_B248 x11 M14 50 := iteF hV c238
      refine lv_bipush (v := 50) hx hb dX7_player_246 (by decide) ?_
      exact J248 x11 M14 50 _ _ _  hT hV hC (lv_sub hl [0, 1] rfl)
    · have hT : sp_X7_player M = sp_X7_player_B248 x11 M14 10 := hT.trans (if_pos c238)
      have hV : vc_X7_player_B248 x11 M14 10 := iteT hV c238
      refine lv_bipush (v := 10) hx hb dX7_player_241 (by decide) ?_
      refine lv_goto (tgt := 248) hx hb dX7_player_243 (by decide) ?_
      exact J248 x11 M14 10 _ _ _  hT hV hC (lv_sub hl [0, 1] rfl)
  have J227 : ∀ (x11 : Int32) (M12 : Mem) (H : Heap) (locs : List Loc) (ls : Array Slot) (hT : sp_X7_player M = sp_X7_player_B227 x11 M12) (hV : vc_X7_player_B227 x11 M12) (hC : Cx D cy ad R0 L (fA ad L s.heap.size) s M12 H locs) (hl : lv_has ls 4 [(0, .ref (ad 20)), (3, .int x11)]), W p l e ({ frames := 4, cells := 0, slots := 0, locals := 88 }) s m ([.ref (ad 20)] : List Value).toArray below meth c H locs 0 0 (MQ below (va_Qv (fun N => N = sp_X7_player M) (OW D cy ad L s.heap.size) (fA ad L s.heap.size)) ([.ref (ad 20)] : List Value).toArray s 0 0 (fA ad L s.heap.size)) (F0 m 227 ls [.ref (ad 20)]) := by
    intro x11 M12 H locs ls  hT hV hC hl
    have hT : sp_X7_player M = sp_X7_player_B232 x11 M12 1 := hT
    have hV : vc_X7_player_B232 x11 M12 1 := hV
    refine lv_iconst (v := 1) hx hb dX7_player_227 (by decide) ?_
    refine lv_goto (tgt := 232) hx hb dX7_player_228 (by decide) ?_
    exact J232 x11 M12 1 _ _ _  hT hV hC (lv_sub hl [0, 1] rfl)
  have J207 : ∀ (M9 : Mem) (x10 : Int32) (x11 : Int32) (H : Heap) (locs : List Loc) (ls : Array Slot) (hT : sp_X7_player M = sp_X7_player_B207 M9 x10 x11) (hV : vc_X7_player_B207 M9 x10 x11) (hC : Cx D cy ad R0 L (fA ad L s.heap.size) s M9 H locs) (hl : lv_has ls 4 [(0, .ref (ad 20)), (2, .int x10), (3, .int x11)]), W p l e ({ frames := 4, cells := 0, slots := 0, locals := 88 }) s m ([.ref (ad 20)] : List Value).toArray below meth c H locs 0 0 (MQ below (va_Qv (fun N => N = sp_X7_player M) (OW D cy ad L s.heap.size) (fA ad L s.heap.size)) ([.ref (ad 20)] : List Value).toArray s 0 0 (fA ad L s.heap.size)) (F0 m 207 ls []) := by
    intro M9 x10 x11 H locs ls  hT hV hC hl
    have hT : sp_X7_player M = sp_X7_player_n4 x11 (wI M9 22 x10.toNatClampNeg 0) := hT
    have hV : vp_in x10 117 ∧ (vc_X7_player_n4 x11 (wI M9 22 x10.toNatClampNeg 0)) := hV
    refine lv_aload_n hx hb dX7_player_207 rfl (lv_at hl 0 rfl) ?_
    refine q_getr (T := TX7) hx hb hB uw_X7 hown hK hC rfl (hL 20 (by decide) (by decide)) rfl 1 (by decide) rfl rfl (hB _ mw_3_45) dX7_player_208 ?_
    refine lv_iload_n hx hb dX7_player_211 rfl (lv_at hl 1 rfl) ?_
    refine lv_iconst (v := 0) hx hb dX7_player_212 (by decide) ?_
    obtain ⟨w213, hV⟩ : vp_in x10 117 ∧ (vc_X7_player_n4 x11 (wI M9 22 x10.toNatClampNeg 0)) := hV
    refine q_iast hx hb hK hC rfl (hL 22 (by decide) (by decide)) rfl w213 rfl dX7_player_213 (fun H locs hC => ?_)
    obtain ⟨M12, eM12⟩ : ∃ z : Mem, z = wI M9 22 x10.toNatClampNeg 0 := ⟨_, rfl⟩
    rw [← eM12] at hC
    have hT : sp_X7_player M = sp_X7_player_n4 x11 M12 := by rw [eM12]; exact hT
    have hV : vc_X7_player_n4 x11 M12 := by rw [eM12]; exact hV
    refine lv_aload_n hx hb dX7_player_214 rfl (lv_at hl 0 rfl) ?_
    refine lv_aload_n hx hb dX7_player_215 rfl (lv_at hl 0 rfl) ?_
    refine q_geti (T := TX7) hx hb hB uw_X7 hown hK hC rfl (hL 20 (by decide) (by decide)) rfl 28 (by decide) rfl (hB _ mw_3_72) dX7_player_216 ?_
    refine lv_if_ne (tgt := 227) hx hb dX7_player_219 (by decide) (fun c219 => ?_) (fun c219 => ?_)
    · have hT : sp_X7_player M = sp_X7_player_B227 x11 M12 := hT.trans (if_neg c219)
      have hV : vc_X7_player_B227 x11 M12 := iteF hV c219
      exact J227 x11 M12 _ _ _  hT hV hC (lv_sub hl [0, 2] rfl)
    · have hT : sp_X7_player M = if x11 = 2 then (sp_X7_player_B227 x11 M12) else (sp_X7_player_B232 x11 M12 0) := hT.trans (if_pos c219)
      have hV : if x11 = 2 then vc_X7_player_B227 x11 M12 else vc_X7_player_B232 x11 M12 0 := iteT hV c219
      refine lv_iload_n hx hb dX7_player_222 rfl (lv_at hl 2 rfl) ?_
      refine lv_iconst (v := 2) hx hb dX7_player_223 (by decide) ?_
      refine lv_icmp_ne (tgt := 231) hx hb dX7_player_224 (by decide) (fun c224 => ?_) (fun c224 => ?_)
      · have hT : sp_X7_player M = sp_X7_player_B232 x11 M12 0 := hT.trans (if_neg c224)
        have hV : vc_X7_player_B232 x11 M12 0 := iteF hV c224
        refine lv_iconst (v := 0) hx hb dX7_player_231 (by decide) ?_
        exact J232 x11 M12 0 _ _ _  hT hV hC (lv_sub hl [0, 2] rfl)
      · have hT : sp_X7_player M = sp_X7_player_B227 x11 M12 := hT.trans (if_pos c224)
        have hV : vc_X7_player_B227 x11 M12 := iteT hV c224
        exact J227 x11 M12 _ _ _  hT hV hC (lv_sub hl [0, 2] rfl)
  have J173 : ∀ (M9 : Mem) (H : Heap) (locs : List Loc) (ls : Array Slot) (hT : sp_X7_player M = sp_X7_player_B173 M9) (hV : vc_X7_player_B173 M9) (hC : Cx D cy ad R0 L (fA ad L s.heap.size) s M9 H locs) (hl : lv_has ls 4 [(0, .ref (ad 20))]), W p l e ({ frames := 4, cells := 0, slots := 0, locals := 88 }) s m ([.ref (ad 20)] : List Value).toArray below meth c H locs 0 0 (MQ below (va_Qv (fun N => N = sp_X7_player M) (OW D cy ad L s.heap.size) (fA ad L s.heap.size)) ([.ref (ad 20)] : List Value).toArray s 0 0 (fA ad L s.heap.size)) (F0 m 173 ls []) := by
    intro M9 H locs ls  hT hV hC hl
    have hT : sp_X7_player M = sp_X7_player_n6 M9 ((13 * (gI M9 24 0)) + (gI M9 23 0)) := hT
    have hV : vc_X7_player_n6 M9 ((13 * (gI M9 24 0)) + (gI M9 23 0)) := hV
    refine lv_bipush (v := 13) hx hb dX7_player_173 (by decide) ?_
    refine lv_aload_n hx hb dX7_player_175 rfl (lv_at hl 0 rfl) ?_
    refine q_getr (T := TX7) hx hb hB uw_X7 hown hK hC rfl (hL 20 (by decide) (by decide)) rfl 17 (by decide) rfl rfl (hB _ mw_3_61) dX7_player_176 ?_
    refine lv_iconst (v := 0) hx hb dX7_player_179 (by decide) ?_
    refine q_iald (k := 0) hx hb hK hC rfl (hL 24 (by decide) (by decide)) rfl (by unfold vp_in; decide) (by decide) dX7_player_180 ?_
    refine lv_imul hx hb dX7_player_181 ?_
    refine lv_aload_n hx hb dX7_player_182 rfl (lv_at hl 0 rfl) ?_
    refine q_getr (T := TX7) hx hb hB uw_X7 hown hK hC rfl (hL 20 (by decide) (by decide)) rfl 16 (by decide) rfl rfl (hB _ mw_3_60) dX7_player_183 ?_
    refine lv_iconst (v := 0) hx hb dX7_player_186 (by decide) ?_
    refine q_iald (k := 0) hx hb hK hC rfl (hL 23 (by decide) (by decide)) rfl (by unfold vp_in; decide) (by decide) dX7_player_187 ?_
    refine lv_iadd hx hb dX7_player_188 ?_
    refine lv_topi (fun x10 ex10 => ?_)
    have hT : sp_X7_player M = sp_X7_player_n6 M9 x10 := by rw [ex10]; exact hT
    have hV : vc_X7_player_n6 M9 x10 := by rw [ex10]; exact hV
    refine lv_istore_n (lv' := [(2, .int x10), (0, .ref (ad 20))]) hx hb dX7_player_189 rfl hl (by decide) rfl (fun ls hl => ?_)
    refine lv_aload_n hx hb dX7_player_190 rfl (lv_at hl 1 rfl) ?_
    refine q_getr (T := TX7) hx hb hB uw_X7 hown hK hC rfl (hL 20 (by decide) (by decide)) rfl 1 (by decide) rfl rfl (hB _ mw_3_45) dX7_player_191 ?_
    refine lv_iload_n hx hb dX7_player_194 rfl (lv_at hl 0 rfl) ?_
    obtain ⟨w195, hV⟩ : vp_in x10 117 ∧ (vc_X7_player_n5 M9 x10 (gI M9 22 x10.toNatClampNeg)) := hV
    refine q_iald hx hb hK hC rfl (hL 22 (by decide) (by decide)) rfl w195 rfl dX7_player_195 ?_
    refine lv_topi (fun x11 ex11 => ?_)
    have hT : sp_X7_player M = sp_X7_player_n5 M9 x10 x11 := by rw [ex11]; exact hT
    have hV : vc_X7_player_n5 M9 x10 x11 := by rw [ex11]; exact hV
    refine lv_istore_n (lv' := [(3, .int x11), (2, .int x10), (0, .ref (ad 20))]) hx hb dX7_player_196 rfl hl (by decide) rfl (fun ls hl => ?_)
    refine lv_iload_n hx hb dX7_player_197 rfl (lv_at hl 0 rfl) ?_
    refine lv_iconst (v := 2) hx hb dX7_player_198 (by decide) ?_
    refine lv_icmp_eq (tgt := 207) hx hb dX7_player_199 (by decide) (fun c199 => ?_) (fun c199 => ?_)
    · have hT : sp_X7_player M = sp_X7_player_B207 M9 x10 x11 := hT.trans (if_pos c199)
      have hV : vc_X7_player_B207 M9 x10 x11 := iteT hV c199
      exact J207 M9 x10 x11 _ _ _  hT hV hC (lv_sub hl [2, 1, 0] rfl)
    · have hT : sp_X7_player M = if x11 = 3 then (sp_X7_player_B207 M9 x10 x11) else (sp_X7_player_B260 M9) := hT.trans (if_neg c199)
      have hV : if x11 = 3 then vc_X7_player_B207 M9 x10 x11 else True := iteF hV c199
      refine lv_iload_n hx hb dX7_player_202 rfl (lv_at hl 0 rfl) ?_
      refine lv_iconst (v := 3) hx hb dX7_player_203 (by decide) ?_
      refine lv_icmp_ne (tgt := 260) hx hb dX7_player_204 (by decide) (fun c204 => ?_) (fun c204 => ?_)
      · have hT : sp_X7_player M = sp_X7_player_B260 M9 := hT.trans (if_neg c204)
        exact J260 M9 _ _ _  hT hC (lv_sub hl [] rfl)
      · have hT : sp_X7_player M = sp_X7_player_B207 M9 x10 x11 := hT.trans (if_pos c204)
        have hV : vc_X7_player_B207 M9 x10 x11 := iteT hV c204
        exact J207 M9 x10 x11 _ _ _  hT hV hC (lv_sub hl [2, 1, 0] rfl)
  have J166 : ∀ (M7 : Mem) (H : Heap) (locs : List Loc) (ls : Array Slot) (hT : sp_X7_player M = sp_X7_player_B166 M7) (hV : vc_X7_player_B166 M7) (hC : Cx D cy ad R0 L (fA ad L s.heap.size) s M7 H locs) (hl : lv_has ls 4 [(0, .ref (ad 20))]), W p l e ({ frames := 4, cells := 0, slots := 0, locals := 88 }) s m ([.ref (ad 20)] : List Value).toArray below meth c H locs 0 0 (MQ below (va_Qv (fun N => N = sp_X7_player M) (OW D cy ad L s.heap.size) (fA ad L s.heap.size)) ([.ref (ad 20)] : List Value).toArray s 0 0 (fA ad L s.heap.size)) (F0 m 166 ls []) := by
    intro M7 H locs ls  hT hV hC hl
    have hT : sp_X7_player M = sp_X7_player_n7 (wF M7 26 0 FP.fconst0) := hT
    have hV : vc_X7_player_n7 (wF M7 26 0 FP.fconst0) := hV
    refine lv_aload_n hx hb dX7_player_166 rfl (lv_at hl 0 rfl) ?_
    refine q_getr (T := TX7) hx hb hB uw_X7 hown hK hC rfl (hL 20 (by decide) (by decide)) rfl 19 (by decide) rfl rfl (hB _ mw_3_63) dX7_player_167 ?_
    refine lv_iconst (v := 0) hx hb dX7_player_170 (by decide) ?_
    refine lv_fconst0 hx hb dX7_player_171 ?_
    refine q_fast (k := 0) hx hb hK hC rfl (hL 26 (by decide) (by decide)) rfl (by unfold vp_in; decide) (by decide) dX7_player_172 (fun H locs hC => ?_)
    obtain ⟨M8, eM8⟩ : ∃ z : Mem, z = wF M7 26 0 FP.fconst0 := ⟨_, rfl⟩
    rw [← eM8] at hC
    have hT : sp_X7_player M = sp_X7_player_n7 M8 := by rw [eM8]; exact hT
    have hV : vc_X7_player_n7 M8 := by rw [eM8]; exact hV
    exact J173 M8 _ _ _  hT hV hC (lv_sub hl [0] rfl)
  have J78 : ∀ (M2 : Mem) (x4 : Int32) (H : Heap) (locs : List Loc) (ls : Array Slot) (hT : sp_X7_player M = sp_X7_player_B78 M2 x4) (hV : vc_X7_player_B78 M2 x4) (hC : Cx D cy ad R0 L (fA ad L s.heap.size) s M2 H locs) (hl : lv_has ls 4 [(0, .ref (ad 20))]), W p l e ({ frames := 4, cells := 0, slots := 0, locals := 88 }) s m ([.ref (ad 20)] : List Value).toArray below meth c H locs 0 0 (MQ below (va_Qv (fun N => N = sp_X7_player M) (OW D cy ad L s.heap.size) (fA ad L s.heap.size)) ([.ref (ad 20)] : List Value).toArray s 0 0 (fA ad L s.heap.size)) (F0 m 78 ls [.int x4]) := by
    intro M2 x4 H locs ls  hT hV hC hl
    have hT : sp_X7_player M = sp_X7_player_n10 (wF M2 26 0 (FP.fadd (gF M2 26 0) (FP.fmul 1045220557 (FP.fadd FP.fconst1 (FP.fmul 1028443341 (FP.i2f x4)))))) := hT
    have hV : (vf_n32 (FP.fmul 1028443341 (FP.i2f x4))) ∧ ((vf_n32 (FP.fadd FP.fconst1 (FP.fmul 1028443341 (FP.i2f x4)))) ∧ ((vf_n32 (FP.fmul 1045220557 (FP.fadd FP.fconst1 (FP.fmul 1028443341 (FP.i2f x4))))) ∧ ((vf_n32 (FP.fadd (gF M2 26 0) (FP.fmul 1045220557 (FP.fadd FP.fconst1 (FP.fmul 1028443341 (FP.i2f x4)))))) ∧ (vc_X7_player_n10 (wF M2 26 0 (FP.fadd (gF M2 26 0) (FP.fmul 1045220557 (FP.fadd FP.fconst1 (FP.fmul 1028443341 (FP.i2f x4)))))))))) := hV
    refine lv_istore_n (lv' := [(1, .int x4), (0, .ref (ad 20))]) hx hb dX7_player_78 rfl hl (by decide) rfl (fun ls hl => ?_)
    refine lv_aload_n hx hb dX7_player_79 rfl (lv_at hl 1 rfl) ?_
    refine q_getr (T := TX7) hx hb hB uw_X7 hown hK hC rfl (hL 20 (by decide) (by decide)) rfl 19 (by decide) rfl rfl (hB _ mw_3_63) dX7_player_80 ?_
    refine lv_iconst (v := 0) hx hb dX7_player_83 (by decide) ?_
    refine lv_aload_n hx hb dX7_player_84 rfl (lv_at hl 1 rfl) ?_
    refine q_getr (T := TX7) hx hb hB uw_X7 hown hK hC rfl (hL 20 (by decide) (by decide)) rfl 19 (by decide) rfl rfl (hB _ mw_3_63) dX7_player_85 ?_
    refine lv_iconst (v := 0) hx hb dX7_player_88 (by decide) ?_
    refine q_fald (k := 0) hx hb hK hC rfl (hL 26 (by decide) (by decide)) rfl (by unfold vp_in; decide) (by decide) dX7_player_89 ?_
    refine lv_ldcf (v := 1045220557) hx hb hown (hB _ mw_3_198) dX7_player_90 ?_
    refine lv_fconst1 hx hb dX7_player_92 ?_
    refine lv_ldcf (v := 1028443341) hx hb hown (hB _ mw_3_199) dX7_player_93 ?_
    refine lv_iload_n hx hb dX7_player_95 rfl (lv_at hl 0 rfl) ?_
    refine lv_i2f hx hb dX7_player_96 ?_
    obtain ⟨w97, hV⟩ : (vf_n32 (FP.fmul 1028443341 (FP.i2f x4))) ∧ ((vf_n32 (FP.fadd FP.fconst1 (FP.fmul 1028443341 (FP.i2f x4)))) ∧ ((vf_n32 (FP.fmul 1045220557 (FP.fadd FP.fconst1 (FP.fmul 1028443341 (FP.i2f x4))))) ∧ ((vf_n32 (FP.fadd (gF M2 26 0) (FP.fmul 1045220557 (FP.fadd FP.fconst1 (FP.fmul 1028443341 (FP.i2f x4)))))) ∧ (vc_X7_player_n10 (wF M2 26 0 (FP.fadd (gF M2 26 0) (FP.fmul 1045220557 (FP.fadd FP.fconst1 (FP.fmul 1028443341 (FP.i2f x4)))))))))) := hV
    refine lv_fmul hx hb dX7_player_97 w97 ?_
    obtain ⟨w98, hV⟩ : (vf_n32 (FP.fadd FP.fconst1 (FP.fmul 1028443341 (FP.i2f x4)))) ∧ ((vf_n32 (FP.fmul 1045220557 (FP.fadd FP.fconst1 (FP.fmul 1028443341 (FP.i2f x4))))) ∧ ((vf_n32 (FP.fadd (gF M2 26 0) (FP.fmul 1045220557 (FP.fadd FP.fconst1 (FP.fmul 1028443341 (FP.i2f x4)))))) ∧ (vc_X7_player_n10 (wF M2 26 0 (FP.fadd (gF M2 26 0) (FP.fmul 1045220557 (FP.fadd FP.fconst1 (FP.fmul 1028443341 (FP.i2f x4))))))))) := hV
    refine lv_fadd hx hb dX7_player_98 w98 ?_
    obtain ⟨w99, hV⟩ : (vf_n32 (FP.fmul 1045220557 (FP.fadd FP.fconst1 (FP.fmul 1028443341 (FP.i2f x4))))) ∧ ((vf_n32 (FP.fadd (gF M2 26 0) (FP.fmul 1045220557 (FP.fadd FP.fconst1 (FP.fmul 1028443341 (FP.i2f x4)))))) ∧ (vc_X7_player_n10 (wF M2 26 0 (FP.fadd (gF M2 26 0) (FP.fmul 1045220557 (FP.fadd FP.fconst1 (FP.fmul 1028443341 (FP.i2f x4)))))))) := hV
    refine lv_fmul hx hb dX7_player_99 w99 ?_
    obtain ⟨w100, hV⟩ : (vf_n32 (FP.fadd (gF M2 26 0) (FP.fmul 1045220557 (FP.fadd FP.fconst1 (FP.fmul 1028443341 (FP.i2f x4)))))) ∧ (vc_X7_player_n10 (wF M2 26 0 (FP.fadd (gF M2 26 0) (FP.fmul 1045220557 (FP.fadd FP.fconst1 (FP.fmul 1028443341 (FP.i2f x4))))))) := hV
    refine lv_fadd hx hb dX7_player_100 w100 ?_
    refine q_fast (k := 0) hx hb hK hC rfl (hL 26 (by decide) (by decide)) rfl (by unfold vp_in; decide) (by decide) dX7_player_101 (fun H locs hC => ?_)
    obtain ⟨M5, eM5⟩ : ∃ z : Mem, z = wF M2 26 0 (FP.fadd (gF M2 26 0) (FP.fmul 1045220557 (FP.fadd FP.fconst1 (FP.fmul 1028443341 (FP.i2f x4))))) := ⟨_, rfl⟩
    rw [← eM5] at hC
    have hT : sp_X7_player M = sp_X7_player_n10 M5 := by rw [eM5]; exact hT
    have hV : vc_X7_player_n10 M5 := by rw [eM5]; exact hV
    refine lv_aload_n hx hb dX7_player_102 rfl (lv_at hl 1 rfl) ?_
    refine q_getr (T := TX7) hx hb hB uw_X7 hown hK hC rfl (hL 20 (by decide) (by decide)) rfl 19 (by decide) rfl rfl (hB _ mw_3_63) dX7_player_103 ?_
    refine lv_iconst (v := 0) hx hb dX7_player_106 (by decide) ?_
    refine q_fald (k := 0) hx hb hK hC rfl (hL 26 (by decide) (by decide)) rfl (by unfold vp_in; decide) (by decide) dX7_player_107 ?_
    refine lv_fconst1 hx hb dX7_player_108 ?_
    refine lv_fcmp hx hb dX7_player_109 ?_
    refine lv_if_ge (tgt := 114) hx hb dX7_player_110 (by decide) (fun c110 => ?_) (fun c110 => ?_)
    · have hT : sp_X7_player M = sp_X7_player_n9 (sp_X7_step M5 0) := hT.trans (if_pos c110)
      have hV : vc_X7_step M5 0 ∧ (vc_X7_player_n9 (sp_X7_step M5 0)) := iteT hV c110
      refine lv_aload_n hx hb dX7_player_114 rfl (lv_at hl 1 rfl) ?_
      refine lv_iconst (v := 0) hx hb dX7_player_115 (by decide) ?_
      obtain ⟨v116, hV⟩ : vc_X7_step M5 0 ∧ (vc_X7_player_n9 (sp_X7_step M5 0)) := hV
      refine q_Cv (q_V (own := "MazeBoardModel") (y := yX7_step) (As := [.int 0]) (rest := []) ⟨hx, hb, hml, hown, hB⟩ hK hE hC (c_X7_step l D cy ad L H.size (hL.sub (by decide) (by decide)) M5 0 v116) rfl (hL 20 (by decide) (by decide)) rfl mw_3_200 mw_3_202 mw_0_34 mw_1_7 mw_3_203 rfl yd_X7_step ⟨rfl, rfl⟩ ⟨Nat.le_of_ble_eq_true rfl, Nat.le_of_ble_eq_true rfl⟩ rfl hl.1 rfl (Nat.le_of_ble_eq_true rfl) dX7_player_116 ⟨Nat.le_refl _, Nat.le_refl _⟩) hC (fun M6 H locs eM6 hC => ?_)
      have hT : sp_X7_player M = sp_X7_player_n9 M6 := by rw [eM6]; exact hT
      have hV : vc_X7_player_n9 M6 := by rw [eM6]; exact hV
      refine lv_aload_n hx hb dX7_player_119 rfl (lv_at hl 1 rfl) ?_
      refine q_getr (T := TX7) hx hb hB uw_X7 hown hK hC rfl (hL 20 (by decide) (by decide)) rfl 19 (by decide) rfl rfl (hB _ mw_3_63) dX7_player_120 ?_
      refine lv_iconst (v := 0) hx hb dX7_player_123 (by decide) ?_
      refine lv_aload_n hx hb dX7_player_124 rfl (lv_at hl 1 rfl) ?_
      refine q_getr (T := TX7) hx hb hB uw_X7 hown hK hC rfl (hL 20 (by decide) (by decide)) rfl 19 (by decide) rfl rfl (hB _ mw_3_63) dX7_player_125 ?_
      refine lv_iconst (v := 0) hx hb dX7_player_128 (by decide) ?_
      refine q_fald (k := 0) hx hb hK hC rfl (hL 26 (by decide) (by decide)) rfl (by unfold vp_in; decide) (by decide) dX7_player_129 ?_
      refine lv_fconst1 hx hb dX7_player_130 ?_
      obtain ⟨w131, hV⟩ : (vf_n32 (FP.fsub (gF M6 26 0) FP.fconst1)) ∧ (vc_X7_player_n8 (wF M6 26 0 (FP.fsub (gF M6 26 0) FP.fconst1))) := hV
      refine lv_fsub hx hb dX7_player_131 w131 ?_
      refine q_fast (k := 0) hx hb hK hC rfl (hL 26 (by decide) (by decide)) rfl (by unfold vp_in; decide) (by decide) dX7_player_132 (fun H locs hC => ?_)
      obtain ⟨M7, eM7⟩ : ∃ z : Mem, z = wF M6 26 0 (FP.fsub (gF M6 26 0) FP.fconst1) := ⟨_, rfl⟩
      rw [← eM7] at hC
      have hT : sp_X7_player M = sp_X7_player_n8 M7 := by rw [eM7]; exact hT
      have hV : vc_X7_player_n8 M7 := by rw [eM7]; exact hV
      refine lv_aload_n hx hb dX7_player_133 rfl (lv_at hl 1 rfl) ?_
      refine lv_iconst (v := 0) hx hb dX7_player_134 (by decide) ?_
      refine lv_aload_n hx hb dX7_player_135 rfl (lv_at hl 1 rfl) ?_
      refine q_getr (T := TX7) hx hb hB uw_X7 hown hK hC rfl (hL 20 (by decide) (by decide)) rfl 18 (by decide) rfl rfl (hB _ mw_3_62) dX7_player_136 ?_
      refine lv_iconst (v := 0) hx hb dX7_player_139 (by decide) ?_
      refine q_iald (k := 0) hx hb hK hC rfl (hL 25 (by decide) (by decide)) rfl (by unfold vp_in; decide) (by decide) dX7_player_140 ?_
      obtain ⟨v141, hV⟩ : (vc_X7_open M7 0 (gI M7 25 0)) ∧ (if (sp_X7_open M7 0 (gI M7 25 0)) = 0 then vc_X7_player_B166 M7 else (if (gI M7 20 15) < 0 then vc_X7_player_B173 M7 else ((vc_X7_open M7 0 (gI M7 20 15)) ∧ (if (sp_X7_open M7 0 (gI M7 20 15)) = 0 then vc_X7_player_B173 M7 else vc_X7_player_B166 M7)))) := hV
      refine q_Ci (q_V (own := "MazeBoardModel") (y := yX7_open) (As := [.int 0, .int (gI M7 25 0)]) (rest := []) ⟨hx, hb, hml, hown, hB⟩ hK hE hC (c_X7_open l D cy ad L H.size (hL.sub (by decide) (by decide)) M7 0 (gI M7 25 0) v141) rfl (hL 20 (by decide) (by decide)) rfl mw_3_177 mw_3_179 mw_0_31 mw_1_7 mw_3_180 rfl yd_X7_open ⟨rfl, rfl⟩ ⟨Nat.le_of_ble_eq_true rfl, Nat.le_of_ble_eq_true rfl⟩ rfl hl.1 rfl (Nat.le_of_ble_eq_true rfl) dX7_player_141 ⟨Nat.le_refl _, Nat.le_refl _⟩) hC (fun r N_ H locs hp hC => ?_)
      obtain ⟨hr_, hM_⟩ := hp
      subst hr_
      rw [hM_] at hC
      refine lv_if_eq (tgt := 166) hx hb dX7_player_144 (by decide) (fun c144 => ?_) (fun c144 => ?_)
      · have hT : sp_X7_player M = sp_X7_player_B166 M7 := hT.trans (if_pos c144)
        have hV : vc_X7_player_B166 M7 := iteT hV c144
        exact J166 M7 _ _ _  hT hV hC (lv_sub hl [1] rfl)
      · have hT : sp_X7_player M = if (gI M7 20 15) < 0 then (sp_X7_player_B173 M7) else (if (sp_X7_open M7 0 (gI M7 20 15)) = 0 then (sp_X7_player_B173 M7) else (sp_X7_player_B166 M7)) := hT.trans (if_neg c144)
        have hV : if (gI M7 20 15) < 0 then vc_X7_player_B173 M7 else ((vc_X7_open M7 0 (gI M7 20 15)) ∧ (if (sp_X7_open M7 0 (gI M7 20 15)) = 0 then vc_X7_player_B173 M7 else vc_X7_player_B166 M7)) := iteF hV c144
        refine lv_aload_n hx hb dX7_player_147 rfl (lv_at hl 1 rfl) ?_
        refine q_geti (T := TX7) hx hb hB uw_X7 hown hK hC rfl (hL 20 (by decide) (by decide)) rfl 15 (by decide) rfl (hB _ mw_3_59) dX7_player_148 ?_
        refine lv_if_lt (tgt := 173) hx hb dX7_player_151 (by decide) (fun c151 => ?_) (fun c151 => ?_)
        · have hT : sp_X7_player M = sp_X7_player_B173 M7 := hT.trans (if_pos c151)
          have hV : vc_X7_player_B173 M7 := iteT hV c151
          exact J173 M7 _ _ _  hT hV hC (lv_sub hl [1] rfl)
        · have hT : sp_X7_player M = if (sp_X7_open M7 0 (gI M7 20 15)) = 0 then (sp_X7_player_B173 M7) else (sp_X7_player_B166 M7) := hT.trans (if_neg c151)
          have hV : (vc_X7_open M7 0 (gI M7 20 15)) ∧ (if (sp_X7_open M7 0 (gI M7 20 15)) = 0 then vc_X7_player_B173 M7 else vc_X7_player_B166 M7) := iteF hV c151
          refine lv_aload_n hx hb dX7_player_154 rfl (lv_at hl 1 rfl) ?_
          refine lv_iconst (v := 0) hx hb dX7_player_155 (by decide) ?_
          refine lv_aload_n hx hb dX7_player_156 rfl (lv_at hl 1 rfl) ?_
          refine q_geti (T := TX7) hx hb hB uw_X7 hown hK hC rfl (hL 20 (by decide) (by decide)) rfl 15 (by decide) rfl (hB _ mw_3_59) dX7_player_157 ?_
          obtain ⟨v160, hV⟩ : (vc_X7_open M7 0 (gI M7 20 15)) ∧ (if (sp_X7_open M7 0 (gI M7 20 15)) = 0 then vc_X7_player_B173 M7 else vc_X7_player_B166 M7) := hV
          refine q_Ci (q_V (own := "MazeBoardModel") (y := yX7_open) (As := [.int 0, .int (gI M7 20 15)]) (rest := []) ⟨hx, hb, hml, hown, hB⟩ hK hE hC (c_X7_open l D cy ad L H.size (hL.sub (by decide) (by decide)) M7 0 (gI M7 20 15) v160) rfl (hL 20 (by decide) (by decide)) rfl mw_3_177 mw_3_179 mw_0_31 mw_1_7 mw_3_180 rfl yd_X7_open ⟨rfl, rfl⟩ ⟨Nat.le_of_ble_eq_true rfl, Nat.le_of_ble_eq_true rfl⟩ rfl hl.1 rfl (Nat.le_of_ble_eq_true rfl) dX7_player_160 ⟨Nat.le_refl _, Nat.le_refl _⟩) hC (fun r N_ H locs hp hC => ?_)
          obtain ⟨hr_, hM_⟩ := hp
          subst hr_
          rw [hM_] at hC
          refine lv_if_eq (tgt := 173) hx hb dX7_player_163 (by decide) (fun c163 => ?_) (fun c163 => ?_)
          · have hT : sp_X7_player M = sp_X7_player_B173 M7 := hT.trans (if_pos c163)
            have hV : vc_X7_player_B173 M7 := iteT hV c163
            exact J173 M7 _ _ _  hT hV hC (lv_sub hl [1] rfl)
          · have hT : sp_X7_player M = sp_X7_player_B166 M7 := hT.trans (if_neg c163)
            have hV : vc_X7_player_B166 M7 := iteF hV c163
            exact J166 M7 _ _ _  hT hV hC (lv_sub hl [1] rfl)
    · have hT : sp_X7_player M = M5 := hT.trans (if_neg c110)
      exact q_retv hx hb hr hlocks hC hT.symm dX7_player_113
  have J40 : ∀ (M2 : Mem) (H : Heap) (locs : List Loc) (ls : Array Slot) (hT : sp_X7_player M = sp_X7_player_B40 M2) (hV : vc_X7_player_B40 M2) (hC : Cx D cy ad R0 L (fA ad L s.heap.size) s M2 H locs) (hl : lv_has ls 4 [(0, .ref (ad 20))]), W p l e ({ frames := 4, cells := 0, slots := 0, locals := 88 }) s m ([.ref (ad 20)] : List Value).toArray below meth c H locs 0 0 (MQ below (va_Qv (fun N => N = sp_X7_player M) (OW D cy ad L s.heap.size) (fA ad L s.heap.size)) ([.ref (ad 20)] : List Value).toArray s 0 0 (fA ad L s.heap.size)) (F0 m 40 ls []) := by
    intro M2 H locs ls  hT hV hC hl
    have hT : sp_X7_player M = if (sp_X7_open M2 0 (gI M2 25 0)) = 0 then (sp_X7_player_n11 (wF M2 26 0 FP.fconst0)) else (if (gI M2 20 8) ≤ 4 then (sp_X7_player_B78 M2 (gI M2 20 8)) else (sp_X7_player_B78 M2 4)) := hT
    have hV : (vc_X7_open M2 0 (gI M2 25 0)) ∧ (if (sp_X7_open M2 0 (gI M2 25 0)) = 0 then True else (if (gI M2 20 8) ≤ 4 then (vc_X7_player_B78 M2 (gI M2 20 8)) else vc_X7_player_B78 M2 4)) := hV
    refine lv_aload_n hx hb dX7_player_40 rfl (lv_at hl 0 rfl) ?_
    refine lv_iconst (v := 0) hx hb dX7_player_41 (by decide) ?_
    refine lv_aload_n hx hb dX7_player_42 rfl (lv_at hl 0 rfl) ?_
    refine q_getr (T := TX7) hx hb hB uw_X7 hown hK hC rfl (hL 20 (by decide) (by decide)) rfl 18 (by decide) rfl rfl (hB _ mw_3_62) dX7_player_43 ?_
    refine lv_iconst (v := 0) hx hb dX7_player_46 (by decide) ?_
    refine q_iald (k := 0) hx hb hK hC rfl (hL 25 (by decide) (by decide)) rfl (by unfold vp_in; decide) (by decide) dX7_player_47 ?_
    obtain ⟨v48, hV⟩ : (vc_X7_open M2 0 (gI M2 25 0)) ∧ (if (sp_X7_open M2 0 (gI M2 25 0)) = 0 then True else (if (gI M2 20 8) ≤ 4 then (vc_X7_player_B78 M2 (gI M2 20 8)) else vc_X7_player_B78 M2 4)) := hV
    refine q_Ci (q_V (own := "MazeBoardModel") (y := yX7_open) (As := [.int 0, .int (gI M2 25 0)]) (rest := []) ⟨hx, hb, hml, hown, hB⟩ hK hE hC (c_X7_open l D cy ad L H.size (hL.sub (by decide) (by decide)) M2 0 (gI M2 25 0) v48) rfl (hL 20 (by decide) (by decide)) rfl mw_3_177 mw_3_179 mw_0_31 mw_1_7 mw_3_180 rfl yd_X7_open ⟨rfl, rfl⟩ ⟨Nat.le_of_ble_eq_true rfl, Nat.le_of_ble_eq_true rfl⟩ rfl hl.1 rfl (Nat.le_of_ble_eq_true rfl) dX7_player_48 ⟨Nat.le_refl _, Nat.le_refl _⟩) hC (fun r N_ H locs hp hC => ?_)
    obtain ⟨hr_, hM_⟩ := hp
    subst hr_
    rw [hM_] at hC
    refine lv_if_ne (tgt := 62) hx hb dX7_player_51 (by decide) (fun c51 => ?_) (fun c51 => ?_)
    · have hT : sp_X7_player M = if (gI M2 20 8) ≤ 4 then (sp_X7_player_B78 M2 (gI M2 20 8)) else (sp_X7_player_B78 M2 4) := hT.trans (if_neg c51)
      have hV : if (gI M2 20 8) ≤ 4 then (vc_X7_player_B78 M2 (gI M2 20 8)) else vc_X7_player_B78 M2 4 := iteF hV c51
      refine lv_aload_n hx hb dX7_player_62 rfl (lv_at hl 0 rfl) ?_
      refine q_geti (T := TX7) hx hb hB uw_X7 hown hK hC rfl (hL 20 (by decide) (by decide)) rfl 8 (by decide) rfl (hB _ mw_3_52) dX7_player_63 ?_
      refine lv_iconst (v := 4) hx hb dX7_player_66 (by decide) ?_
      refine lv_icmp_le (tgt := 74) hx hb dX7_player_67 (by decide) (fun c67 => ?_) (fun c67 => ?_)
      · have hT : sp_X7_player M = sp_X7_player_B78 M2 (gI M2 20 8) := hT.trans (if_pos c67)
        have hV : vc_X7_player_B78 M2 (gI M2 20 8) := iteT hV c67
        refine lv_aload_n hx hb dX7_player_74 rfl (lv_at hl 0 rfl) ?_
        refine q_geti (T := TX7) hx hb hB uw_X7 hown hK hC rfl (hL 20 (by decide) (by decide)) rfl 8 (by decide) rfl (hB _ mw_3_52) dX7_player_75 ?_
        exact J78 M2 (gI M2 20 8) _ _ _  hT hV hC (lv_sub hl [0] rfl)
      · have hT : sp_X7_player M = sp_X7_player_B78 M2 4 := hT.trans (if_neg c67)
        have hV : vc_X7_player_B78 M2 4 := iteF hV c67
        refine lv_iconst (v := 4) hx hb dX7_player_70 (by decide) ?_
        refine lv_goto (tgt := 78) hx hb dX7_player_71 (by decide) ?_
        exact J78 M2 4 _ _ _  hT hV hC (lv_sub hl [0] rfl)
    · have hT : sp_X7_player M = sp_X7_player_n11 (wF M2 26 0 FP.fconst0) := hT.trans (if_pos c51)
      refine lv_aload_n hx hb dX7_player_54 rfl (lv_at hl 0 rfl) ?_
      refine q_getr (T := TX7) hx hb hB uw_X7 hown hK hC rfl (hL 20 (by decide) (by decide)) rfl 19 (by decide) rfl rfl (hB _ mw_3_63) dX7_player_55 ?_
      refine lv_iconst (v := 0) hx hb dX7_player_58 (by decide) ?_
      refine lv_fconst0 hx hb dX7_player_59 ?_
      refine q_fast (k := 0) hx hb hK hC rfl (hL 26 (by decide) (by decide)) rfl (by unfold vp_in; decide) (by decide) dX7_player_60 (fun H locs hC => ?_)
      obtain ⟨M3, eM3⟩ : ∃ z : Mem, z = wF M2 26 0 FP.fconst0 := ⟨_, rfl⟩
      rw [← eM3] at hC
      have hT : sp_X7_player M = sp_X7_player_n11 M3 := by rw [eM3]; exact hT
      exact q_retv hx hb hr hlocks hC hT.symm dX7_player_61
  have hT : sp_X7_player M = if (gI M 20 15) < 0 then (sp_X7_player_B40 M) else (if (sp_X7_open M 0 (gI M 20 15)) = 0 then (sp_X7_player_B40 M) else (if (Op.cmpValue (FP.fcmp (gF M 26 0) FP.fconst0) .l) = 0 then (sp_X7_player_n12 (wI M 25 0 (gI M 20 15))) else (sp_X7_player_B40 M))) := rfl
  have hV : if (gI M 20 15) < 0 then vc_X7_player_B40 M else ((vc_X7_open M 0 (gI M 20 15)) ∧ (if (sp_X7_open M 0 (gI M 20 15)) = 0 then vc_X7_player_B40 M else (if (Op.cmpValue (FP.fcmp (gF M 26 0) FP.fconst0) .l) = 0 then (vc_X7_player_n12 (wI M 25 0 (gI M 20 15))) else vc_X7_player_B40 M))) := hV
  refine lv_aload_n hx hb dX7_player_0 rfl (lv_at hl 0 rfl) ?_
  refine q_geti (T := TX7) hx hb hB uw_X7 hown hK hC rfl (hL 20 (by decide) (by decide)) rfl 15 (by decide) rfl (hB _ mw_3_59) dX7_player_1 ?_
  refine lv_if_lt (tgt := 40) hx hb dX7_player_4 (by decide) (fun c4 => ?_) (fun c4 => ?_)
  · have hT : sp_X7_player M = sp_X7_player_B40 M := hT.trans (if_pos c4)
    have hV : vc_X7_player_B40 M := iteT hV c4
    exact J40 M _ _ _  hT hV hC (lv_sub hl [0] rfl)
  · have hT : sp_X7_player M = if (sp_X7_open M 0 (gI M 20 15)) = 0 then (sp_X7_player_B40 M) else (if (Op.cmpValue (FP.fcmp (gF M 26 0) FP.fconst0) .l) = 0 then (sp_X7_player_n12 (wI M 25 0 (gI M 20 15))) else (sp_X7_player_B40 M)) := hT.trans (if_neg c4)
    have hV : (vc_X7_open M 0 (gI M 20 15)) ∧ (if (sp_X7_open M 0 (gI M 20 15)) = 0 then vc_X7_player_B40 M else (if (Op.cmpValue (FP.fcmp (gF M 26 0) FP.fconst0) .l) = 0 then (vc_X7_player_n12 (wI M 25 0 (gI M 20 15))) else vc_X7_player_B40 M)) := iteF hV c4
    refine lv_aload_n hx hb dX7_player_7 rfl (lv_at hl 0 rfl) ?_
    refine lv_iconst (v := 0) hx hb dX7_player_8 (by decide) ?_
    refine lv_aload_n hx hb dX7_player_9 rfl (lv_at hl 0 rfl) ?_
    refine q_geti (T := TX7) hx hb hB uw_X7 hown hK hC rfl (hL 20 (by decide) (by decide)) rfl 15 (by decide) rfl (hB _ mw_3_59) dX7_player_10 ?_
    obtain ⟨v13, hV⟩ : (vc_X7_open M 0 (gI M 20 15)) ∧ (if (sp_X7_open M 0 (gI M 20 15)) = 0 then vc_X7_player_B40 M else (if (Op.cmpValue (FP.fcmp (gF M 26 0) FP.fconst0) .l) = 0 then (vc_X7_player_n12 (wI M 25 0 (gI M 20 15))) else vc_X7_player_B40 M)) := hV
    refine q_Ci (q_V (own := "MazeBoardModel") (y := yX7_open) (As := [.int 0, .int (gI M 20 15)]) (rest := []) ⟨hx, hb, hml, hown, hB⟩ hK hE hC (c_X7_open l D cy ad L H.size (hL.sub (by decide) (by decide)) M 0 (gI M 20 15) v13) rfl (hL 20 (by decide) (by decide)) rfl mw_3_177 mw_3_179 mw_0_31 mw_1_7 mw_3_180 rfl yd_X7_open ⟨rfl, rfl⟩ ⟨Nat.le_of_ble_eq_true rfl, Nat.le_of_ble_eq_true rfl⟩ rfl hl.1 rfl (Nat.le_of_ble_eq_true rfl) dX7_player_13 ⟨Nat.le_refl _, Nat.le_refl _⟩) hC (fun r N_ H locs hp hC => ?_)
    obtain ⟨hr_, hM_⟩ := hp
    subst hr_
    rw [hM_] at hC
    refine lv_if_eq (tgt := 40) hx hb dX7_player_16 (by decide) (fun c16 => ?_) (fun c16 => ?_)
    · have hT : sp_X7_player M = sp_X7_player_B40 M := hT.trans (if_pos c16)
      have hV : vc_X7_player_B40 M := iteT hV c16
      exact J40 M _ _ _  hT hV hC (lv_sub hl [0] rfl)
    · have hT : sp_X7_player M = if (Op.cmpValue (FP.fcmp (gF M 26 0) FP.fconst0) .l) = 0 then (sp_X7_player_n12 (wI M 25 0 (gI M 20 15))) else (sp_X7_player_B40 M) := hT.trans (if_neg c16)
      have hV : if (Op.cmpValue (FP.fcmp (gF M 26 0) FP.fconst0) .l) = 0 then (vc_X7_player_n12 (wI M 25 0 (gI M 20 15))) else vc_X7_player_B40 M := iteF hV c16
      refine lv_aload_n hx hb dX7_player_19 rfl (lv_at hl 0 rfl) ?_
      refine q_getr (T := TX7) hx hb hB uw_X7 hown hK hC rfl (hL 20 (by decide) (by decide)) rfl 19 (by decide) rfl rfl (hB _ mw_3_63) dX7_player_20 ?_
      refine lv_iconst (v := 0) hx hb dX7_player_23 (by decide) ?_
      refine q_fald (k := 0) hx hb hK hC rfl (hL 26 (by decide) (by decide)) rfl (by unfold vp_in; decide) (by decide) dX7_player_24 ?_
      refine lv_fconst0 hx hb dX7_player_25 ?_
      refine lv_fcmp hx hb dX7_player_26 ?_
      refine lv_if_ne (tgt := 40) hx hb dX7_player_27 (by decide) (fun c27 => ?_) (fun c27 => ?_)
      · have hT : sp_X7_player M = sp_X7_player_B40 M := hT.trans (if_neg c27)
        have hV : vc_X7_player_B40 M := iteF hV c27
        exact J40 M _ _ _  hT hV hC (lv_sub hl [0] rfl)
      · have hT : sp_X7_player M = sp_X7_player_n12 (wI M 25 0 (gI M 20 15)) := hT.trans (if_pos c27)
        have hV : vc_X7_player_n12 (wI M 25 0 (gI M 20 15)) := iteT hV c27
        refine lv_aload_n hx hb dX7_player_30 rfl (lv_at hl 0 rfl) ?_
        refine q_getr (T := TX7) hx hb hB uw_X7 hown hK hC rfl (hL 20 (by decide) (by decide)) rfl 18 (by decide) rfl rfl (hB _ mw_3_62) dX7_player_31 ?_
        refine lv_iconst (v := 0) hx hb dX7_player_34 (by decide) ?_
        refine lv_aload_n hx hb dX7_player_35 rfl (lv_at hl 0 rfl) ?_
        refine q_geti (T := TX7) hx hb hB uw_X7 hown hK hC rfl (hL 20 (by decide) (by decide)) rfl 15 (by decide) rfl (hB _ mw_3_59) dX7_player_36 ?_
        refine q_iast (k := 0) hx hb hK hC rfl (hL 25 (by decide) (by decide)) rfl (by unfold vp_in; decide) (by decide) dX7_player_39 (fun H locs hC => ?_)
        obtain ⟨M1, eM1⟩ : ∃ z : Mem, z = wI M 25 0 (gI M 20 15) := ⟨_, rfl⟩
        rw [← eM1] at hC
        have hT : sp_X7_player M = sp_X7_player_n12 M1 := by rw [eM1]; exact hT
        have hV : vc_X7_player_n12 M1 := by rw [eM1]; exact hV
        exact J40 M1 _ _ _  hT hV hC (lv_sub hl [0] rfl)
