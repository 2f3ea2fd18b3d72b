set_option maxHeartbeats 4000000 in
set_option maxRecDepth 100000 in
theorem c_X7_cell (l : Launch) (D : va_G) (cy ad : Nat → Nat) (L : List Nat) (sz : Nat) (hL : lr 20 34 L) (M : Mem) (a1 : Int32) (a2 : Int32) (hV : vc_X7_cell M a1 a2) : Met l yX7_cell (Cond.code yX7_cell cX7_cell 3 (some .int) :: BG) ({ frames := 0, cells := 0, slots := 0, locals := 0 }) (va_Pc [.ref (ad 20), .int a1, .int a2] (PW D cy ad L M sz)) (va_Qi (fun r N => r = sp_X7_cell M a1 a2 ∧ N = M) (OW D cy ad L sz) (fA ad L sz)) 0 0 (fA ad L sz) := by
  refine q_start (by decide) (Nat.le_of_ble_eq_true rfl) (fun p e s m below meth c H locs ls hsz hx hb hr hlocks hml hown hB hK hE hC hl => ?_)
  subst hsz
  have hown : s.vm.findClass "MazeBoardModel" = some m.cls := hown
  have hl : lv_has ls 3 [(0, .ref (ad 20)), (1, .int a1), (2, .int a2)] := hl
  have J35 : ∀ (x1 : Int32) (H : Heap) (locs : List Loc) (ls : Array Slot) (hT : sp_X7_cell M a1 a2 = sp_X7_cell_B35 x1) (hC : Cx D cy ad R0 L (fA ad L s.heap.size) s M H locs) (hl : lv_has ls 3 []), W p l e ({ frames := 0, cells := 0, slots := 0, locals := 0 }) s m ([.ref (ad 20), .int a1, .int a2] : List Value).toArray below meth c H locs 0 0 (MQ below (va_Qi (fun r N => r = sp_X7_cell M a1 a2 ∧ N = M) (OW D cy ad L s.heap.size) (fA ad L s.heap.size)) ([.ref (ad 20), .int a1, .int a2] : List Value).toArray s 0 0 (fA ad L s.heap.size)) (F0 m 35 ls [.int x1]) := by
    intro x1 H locs ls  hT hC hl
    have hT : sp_X7_cell M a1 a2 = x1 := hT
    exact q_reti hx hb hr hlocks hC ⟨hT.symm, rfl⟩ dX7_cell_35
  have J20 : ∀  (H : Heap) (locs : List Loc) (ls : Array Slot) (hT : sp_X7_cell M a1 a2 = sp_X7_cell_B20 ) (hC : Cx D cy ad R0 L (fA ad L s.heap.size) s M H locs) (hl : lv_has ls 3 []), W p l e ({ frames := 0, cells := 0, slots := 0, locals := 0 }) s m ([.ref (ad 20), .int a1, .int a2] : List Value).toArray below meth c H locs 0 0 (MQ below (va_Qi (fun r N => r = sp_X7_cell M a1 a2 ∧ N = M) (OW D cy ad L s.heap.size) (fA ad L s.heap.size)) ([.ref (ad 20), .int a1, .int a2] : List Value).toArray s 0 0 (fA ad L s.heap.size)) (F0 m 20 ls []) := by
    intro  H locs ls  hT hC hl
    have hT : sp_X7_cell M a1 a2 = sp_X7_cell_B35 (-1) := hT
    refine lv_iconst (v := (-1)) hx hb dX7_cell_20 (by decide) ?_
    refine lv_goto (tgt := 35) hx hb dX7_cell_21 (by decide) ?_
    exact J35 (-1) _ _ _  hT hC (lv_sub hl [] rfl)
  have hT : sp_X7_cell M a1 a2 = if a1 < 0 then sp_X7_cell_B20 else (if 12 < a1 then sp_X7_cell_B20 else (if a2 < 0 then sp_X7_cell_B20 else (if a2 ≤ 8 then (sp_X7_cell_B35 (gI M 22 (((13 * a2) + a1).toNatClampNeg))) else sp_X7_cell_B20))) := rfl
  have hV : if a1 < 0 then True else (if 12 < a1 then True else (if a2 < 0 then True else (if a2 ≤ 8 then (vp_in ((13 * a2) + a1) 117) else True))) := hV
  refine lv_iload_n hx hb dX7_cell_0 rfl (lv_at hl 1 rfl) ?_
  refine lv_if_lt (tgt := 20) hx hb dX7_cell_1 (by decide) (fun c1 => ?_) (fun c1 => ?_)
  · have hT : sp_X7_cell M a1 a2 = sp_X7_cell_B20 := hT.trans (if_pos c1)
    exact J20  _ _ _  hT hC (lv_sub hl [] rfl)
  · have hT : sp_X7_cell M a1 a2 = if 12 < a1 then sp_X7_cell_B20 else (if a2 < 0 then sp_X7_cell_B20 else (if a2 ≤ 8 then (sp_X7_cell_B35 (gI M 22 (((13 * a2) + a1).toNatClampNeg))) else sp_X7_cell_B20)) := hT.trans (if_neg c1)
    have hV : if 12 < a1 then True else (if a2 < 0 then True else (if a2 ≤ 8 then (vp_in ((13 * a2) + a1) 117) else True)) := iteF hV c1
    refine lv_iload_n hx hb dX7_cell_4 rfl (lv_at hl 1 rfl) ?_
    refine lv_bipush (v := 12) hx hb dX7_cell_5 (by decide) ?_
    refine lv_icmp_gt (tgt := 20) hx hb dX7_cell_7 (by decide) (fun c7 => ?_) (fun c7 => ?_)
    · have hT : sp_X7_cell M a1 a2 = sp_X7_cell_B20 := hT.trans (if_pos c7)
      exact J20  _ _ _  hT hC (lv_sub hl [] rfl)
    · have hT : sp_X7_cell M a1 a2 = if a2 < 0 then sp_X7_cell_B20 else (if a2 ≤ 8 then (sp_X7_cell_B35 (gI M 22 (((13 * a2) + a1).toNatClampNeg))) else sp_X7_cell_B20) := hT.trans (if_neg c7)
      have hV : if a2 < 0 then True else (if a2 ≤ 8 then (vp_in ((13 * a2) + a1) 117) else True) := iteF hV c7
      refine lv_iload_n hx hb dX7_cell_10 rfl (lv_at hl 2 rfl) ?_
      refine lv_if_lt (tgt := 20) hx hb dX7_cell_11 (by decide) (fun c11 => ?_) (fun c11 => ?_)
      · have hT : sp_X7_cell M a1 a2 = sp_X7_cell_B20 := hT.trans (if_pos c11)
        exact J20  _ _ _  hT hC (lv_sub hl [] rfl)
      · have hT : sp_X7_cell M a1 a2 = if a2 ≤ 8 then (sp_X7_cell_B35 (gI M 22 (((13 * a2) + a1).toNatClampNeg))) else sp_X7_cell_B20 := hT.trans (if_neg c11)
        have hV : if a2 ≤ 8 then (vp_in ((13 * a2) + a1) 117) else True := iteF hV c11
        refine lv_iload_n hx hb dX7_cell_14 rfl (lv_at hl 2 rfl) ?_
        refine lv_bipush (v := 8) hx hb dX7_cell_15 (by decide) ?_
        refine lv_icmp_le (tgt := 24) hx hb dX7_cell_17 (by decide) (fun c17 => ?_) (fun c17 => ?_)
        · have hT : sp_X7_cell M a1 a2 = sp_X7_cell_B35 (gI M 22 (((13 * a2) + a1).toNatClampNeg)) := hT.trans (if_pos c17)
          have hV : (vp_in ((13 * a2) + a1) 117) := iteT hV c17
          refine lv_aload_n hx hb dX7_cell_24 rfl (lv_at hl 0 rfl) ?_
          refine q_getr (T := TX7) hx hb hB uw_X7 hown hK hC rfl (hL 20 (by decide) (by decide)) rfl 1 (by decide) rfl rfl (hB _ mw_3_45) dX7_cell_25 ?_
          refine lv_bipush (v := 13) hx hb dX7_cell_28 (by decide) ?_
          refine lv_iload_n hx hb dX7_cell_30 rfl (lv_at hl 2 rfl) ?_
          refine lv_imul hx hb dX7_cell_31 ?_
          refine lv_iload_n hx hb dX7_cell_32 rfl (lv_at hl 1 rfl) ?_
          refine lv_iadd hx hb dX7_cell_33 ?_
          have w34 : vp_in ((13 * a2) + a1) 117 := hV
          refine q_iald hx hb hK hC rfl (hL 22 (by decide) (by decide)) rfl w34 rfl dX7_cell_34 ?_
          exact J35 (gI M 22 (((13 * a2) + a1).toNatClampNeg)) _ _ _  hT hC (lv_sub hl [] rfl)
        · have hT : sp_X7_cell M a1 a2 = sp_X7_cell_B20 := hT.trans (if_neg c17)
          exact J20  _ _ _  hT hC (lv_sub hl [] rfl)
set_option maxHeartbeats 4000000 in
set_option maxRecDepth 100000 in
theorem c_X7_sprite (l : Launch) (D : va_G) (cy ad : Nat → Nat) (L : List Nat) (sz : Nat) (hL : lr 20 34 L) (M : Mem) (a1 : Int32) (a2 : Int32) (a3 : Int32) (hV : vc_X7_sprite M a1 a2 a3) : Met l yX7_sprite (Cond.code yX7_sprite cX7_sprite 13 (some .int) :: BG) ({ frames := 1, cells := 0, slots := 0, locals := 20 }) (va_Pc [.ref (ad 20), .int a1, .int a2, .int a3] (PW D cy ad L M sz)) (va_Qi (fun r N => r = sp_X7_sprite M a1 a2 a3 ∧ N = M) (OW D cy ad L sz) (fA ad L sz)) 0 0 (fA ad L sz) := by
  refine q_start (by decide) (Nat.le_of_ble_eq_true rfl) (fun p e s m below meth c H locs ls hsz hx hb hr hlocks hml hown hB hK hE hC hl => ?_)
  subst hsz
  have hown : s.vm.findClass "MazeBoardModel" = some m.cls := hown
  have hl : lv_has ls 13 [(0, .ref (ad 20)), (1, .int a1), (2, .int a2), (3, .int a3)] := hl
  have J274 : ∀ (x13 : Int32) (H : Heap) (locs : List Loc) (ls : Array Slot) (hT : sp_X7_sprite M a1 a2 a3 = sp_X7_sprite_B274 x13) (hC : Cx D cy ad R0 L (fA ad L s.heap.size) s M H locs) (hl : lv_has ls 13 []), W p l e ({ frames := 1, cells := 0, slots := 0, locals := 20 }) s m ([.ref (ad 20), .int a1, .int a2, .int a3] : List Value).toArray below meth c H locs 0 0 (MQ below (va_Qi (fun r N => r = sp_X7_sprite M a1 a2 a3 ∧ N = M) (OW D cy ad L s.heap.size) (fA ad L s.heap.size)) ([.ref (ad 20), .int a1, .int a2, .int a3] : List Value).toArray s 0 0 (fA ad L s.heap.size)) (F0 m 274 ls [.int x13]) := by
    intro x13 H locs ls  hT hC hl
    have hT : sp_X7_sprite M a1 a2 a3 = x13 := hT
    exact q_reti hx hb hr hlocks hC ⟨hT.symm, rfl⟩ dX7_sprite_274
  have J273 : ∀  (H : Heap) (locs : List Loc) (ls : Array Slot) (hT : sp_X7_sprite M a1 a2 a3 = sp_X7_sprite_B273 ) (hC : Cx D cy ad R0 L (fA ad L s.heap.size) s M H locs) (hl : lv_has ls 13 []), W p l e ({ frames := 1, cells := 0, slots := 0, locals := 20 }) s m ([.ref (ad 20), .int a1, .int a2, .int a3] : List Value).toArray below meth c H locs 0 0 (MQ below (va_Qi (fun r N => r = sp_X7_sprite M a1 a2 a3 ∧ N = M) (OW D cy ad L s.heap.size) (fA ad L s.heap.size)) ([.ref (ad 20), .int a1, .int a2, .int a3] : List Value).toArray s 0 0 (fA ad L s.heap.size)) (F0 m 273 ls []) := by
    intro  H locs ls  hT hC hl
    have hT : sp_X7_sprite M a1 a2 a3 = sp_X7_sprite_B274 3 := hT
    refine lv_iconst (v := 3) hx hb dX7_sprite_273 (by decide) ?_
    exact J274 3 _ _ _  hT hC (lv_sub hl [] rfl)
  have J269 : ∀  (H : Heap) (locs : List Loc) (ls : Array Slot) (hT : sp_X7_sprite M a1 a2 a3 = sp_X7_sprite_B269 ) (hC : Cx D cy ad R0 L (fA ad L s.heap.size) s M H locs) (hl : lv_has ls 13 []), W p l e ({ frames := 1, cells := 0, slots := 0, locals := 20 }) s m ([.ref (ad 20), .int a1, .int a2, .int a3] : List Value).toArray below meth c H locs 0 0 (MQ below (va_Qi (fun r N => r = sp_X7_sprite M a1 a2 a3 ∧ N = M) (OW D cy ad L s.heap.size) (fA ad L s.heap.size)) ([.ref (ad 20), .int a1, .int a2, .int a3] : List Value).toArray s 0 0 (fA ad L s.heap.size)) (F0 m 269 ls []) := by
    intro  H locs ls  hT hC hl
    have hT : sp_X7_sprite M a1 a2 a3 = sp_X7_sprite_B274 0 := hT
    refine lv_iconst (v := 0) hx hb dX7_sprite_269 (by decide) ?_
    refine lv_goto (tgt := 274) hx hb dX7_sprite_270 (by decide) ?_
    exact J274 0 _ _ _  hT hC (lv_sub hl [] rfl)
  have J248 : ∀ (x8 : Int32) (x12 : Int32) (H : Heap) (locs : List Loc) (ls : Array Slot) (hT : sp_X7_sprite M a1 a2 a3 = sp_X7_sprite_B248 M x8 x12) (hC : Cx D cy ad R0 L (fA ad L s.heap.size) s M H locs) (hl : lv_has ls 13 [(0, .ref (ad 20)), (10, .int x8)]), W p l e ({ frames := 1, cells := 0, slots := 0, locals := 20 }) s m ([.ref (ad 20), .int a1, .int a2, .int a3] : List Value).toArray below meth c H locs 0 0 (MQ below (va_Qi (fun r N => r = sp_X7_sprite M a1 a2 a3 ∧ N = M) (OW D cy ad L s.heap.size) (fA ad L s.heap.size)) ([.ref (ad 20), .int a1, .int a2, .int a3] : List Value).toArray s 0 0 (fA ad L s.heap.size)) (F0 m 248 ls [.int x12]) := by
    intro x8 x12 H locs ls  hT hC hl
    have hT : sp_X7_sprite M a1 a2 a3 = if x8 = 0 then (if x12 = 0 then sp_X7_sprite_B273 else (if ((gI M 20 13) &&& 4) = 0 then sp_X7_sprite_B269 else sp_X7_sprite_B273)) else sp_X7_sprite_B269 := hT
    refine lv_istore (lv' := [(12, .int x12), (0, .ref (ad 20)), (10, .int x8)]) hx hb dX7_sprite_248 hl (by decide) rfl (fun ls hl => ?_)
    refine lv_iload hx hb dX7_sprite_250 (lv_at hl 2 rfl) ?_
    refine lv_if_ne (tgt := 269) hx hb dX7_sprite_252 (by decide) (fun c252 => ?_) (fun c252 => ?_)
    · have hT : sp_X7_sprite M a1 a2 a3 = sp_X7_sprite_B269 := hT.trans (if_neg c252)
      exact J269  _ _ _  hT hC (lv_sub hl [] rfl)
    · have hT : sp_X7_sprite M a1 a2 a3 = if x12 = 0 then sp_X7_sprite_B273 else (if ((gI M 20 13) &&& 4) = 0 then sp_X7_sprite_B269 else sp_X7_sprite_B273) := hT.trans (if_pos c252)
      refine lv_iload hx hb dX7_sprite_255 (lv_at hl 0 rfl) ?_
      refine lv_if_eq (tgt := 273) hx hb dX7_sprite_257 (by decide) (fun c257 => ?_) (fun c257 => ?_)
      · have hT : sp_X7_sprite M a1 a2 a3 = sp_X7_sprite_B273 := hT.trans (if_pos c257)
        exact J273  _ _ _  hT hC (lv_sub hl [] rfl)
      · have hT : sp_X7_sprite M a1 a2 a3 = if ((gI M 20 13) &&& 4) = 0 then sp_X7_sprite_B269 else sp_X7_sprite_B273 := hT.trans (if_neg c257)
        refine lv_aload_n hx hb dX7_sprite_260 rfl (lv_at hl 1 rfl) ?_
        refine q_geti (T := TX7) hx hb hB uw_X7 hown hK hC rfl (hL 20 (by decide) (by decide)) rfl 13 (by decide) rfl (hB _ mw_3_57) dX7_sprite_261 ?_
        refine lv_iconst (v := 4) hx hb dX7_sprite_264 (by decide) ?_
        refine lv_iand hx hb dX7_sprite_265 ?_
        refine lv_if_ne (tgt := 273) hx hb dX7_sprite_266 (by decide) (fun c266 => ?_) (fun c266 => ?_)
        · have hT : sp_X7_sprite M a1 a2 a3 = sp_X7_sprite_B273 := hT.trans (if_neg c266)
          exact J273  _ _ _  hT hC (lv_sub hl [] rfl)
        · have hT : sp_X7_sprite M a1 a2 a3 = sp_X7_sprite_B269 := hT.trans (if_pos c266)
          exact J269  _ _ _  hT hC (lv_sub hl [] rfl)
  have J247 : ∀ (x8 : Int32) (H : Heap) (locs : List Loc) (ls : Array Slot) (hT : sp_X7_sprite M a1 a2 a3 = sp_X7_sprite_B247 M x8) (hC : Cx D cy ad R0 L (fA ad L s.heap.size) s M H locs) (hl : lv_has ls 13 [(0, .ref (ad 20)), (10, .int x8)]), W p l e ({ frames := 1, cells := 0, slots := 0, locals := 20 }) s m ([.ref (ad 20), .int a1, .int a2, .int a3] : List Value).toArray below meth c H locs 0 0 (MQ below (va_Qi (fun r N => r = sp_X7_sprite M a1 a2 a3 ∧ N = M) (OW D cy ad L s.heap.size) (fA ad L s.heap.size)) ([.ref (ad 20), .int a1, .int a2, .int a3] : List Value).toArray s 0 0 (fA ad L s.heap.size)) (F0 m 247 ls []) := by
    intro x8 H locs ls  hT hC hl
    have hT : sp_X7_sprite M a1 a2 a3 = sp_X7_sprite_B248 M x8 0 := hT
    refine lv_iconst (v := 0) hx hb dX7_sprite_247 (by decide) ?_
    exact J248 x8 0 _ _ _  hT hC (lv_sub hl [0, 1] rfl)
  have J240 : ∀ (x4 : Int32) (x8 : Int32) (x11 : Int32) (H : Heap) (locs : List Loc) (ls : Array Slot) (hT : sp_X7_sprite M a1 a2 a3 = sp_X7_sprite_B240 M x4 x8 x11) (hC : Cx D cy ad R0 L (fA ad L s.heap.size) s M H locs) (hl : lv_has ls 13 [(0, .ref (ad 20)), (10, .int x8)]), W p l e ({ frames := 1, cells := 0, slots := 0, locals := 20 }) s m ([.ref (ad 20), .int a1, .int a2, .int a3] : List Value).toArray below meth c H locs 0 0 (MQ below (va_Qi (fun r N => r = sp_X7_sprite M a1 a2 a3 ∧ N = M) (OW D cy ad L s.heap.size) (fA ad L s.heap.size)) ([.ref (ad 20), .int a1, .int a2, .int a3] : List Value).toArray s 0 0 (fA ad L s.heap.size)) (F0 m 240 ls [.int x11, .int x4]) := by
    intro x4 x8 x11 H locs ls  hT hC hl
    have hT : sp_X7_sprite M a1 a2 a3 = if x4 = x11 then (sp_X7_sprite_B248 M x8 1) else (sp_X7_sprite_B247 M x8) := hT
    refine lv_icmp_ne (tgt := 247) hx hb dX7_sprite_240 (by decide) (fun c240 => ?_) (fun c240 => ?_)
    · have hT : sp_X7_sprite M a1 a2 a3 = sp_X7_sprite_B247 M x8 := hT.trans (if_neg c240)
      exact J247 x8 _ _ _  hT hC (lv_sub hl [0, 1] rfl)
    · have hT : sp_X7_sprite M a1 a2 a3 = sp_X7_sprite_B248 M x8 1 := hT.trans (if_pos c240)
      refine lv_iconst (v := 1) hx hb dX7_sprite_243 (by decide) ?_
      refine lv_goto (tgt := 248) hx hb dX7_sprite_244 (by decide) ?_
      exact J248 x8 1 _ _ _  hT hC (lv_sub hl [0, 1] rfl)
  have J212 : ∀ (x8 : Int32) (H : Heap) (locs : List Loc) (ls : Array Slot) (hT : sp_X7_sprite M a1 a2 a3 = sp_X7_sprite_B212 M x8) (hC : Cx D cy ad R0 L (fA ad L s.heap.size) s M H locs) (hl : lv_has ls 13 [(0, .ref (ad 20)), (10, .int x8)]), W p l e ({ frames := 1, cells := 0, slots := 0, locals := 20 }) s m ([.ref (ad 20), .int a1, .int a2, .int a3] : List Value).toArray below meth c H locs 0 0 (MQ below (va_Qi (fun r N => r = sp_X7_sprite M a1 a2 a3 ∧ N = M) (OW D cy ad L s.heap.size) (fA ad L s.heap.size)) ([.ref (ad 20), .int a1, .int a2, .int a3] : List Value).toArray s 0 0 (fA ad L s.heap.size)) (F0 m 212 ls []) := by
    intro x8 H locs ls  hT hC hl
    have hT : sp_X7_sprite M a1 a2 a3 = sp_X7_sprite_B248 M x8 0 := hT
    refine lv_iconst (v := 0) hx hb dX7_sprite_212 (by decide) ?_
    refine lv_goto (tgt := 248) hx hb dX7_sprite_213 (by decide) ?_
    exact J248 x8 0 _ _ _  hT hC (lv_sub hl [0, 1] rfl)
  have J205 : ∀ (x5 : Int32) (x8 : Int32) (x10 : Int32) (H : Heap) (locs : List Loc) (ls : Array Slot) (hT : sp_X7_sprite M a1 a2 a3 = sp_X7_sprite_B205 M x5 x8 x10) (hC : Cx D cy ad R0 L (fA ad L s.heap.size) s M H locs) (hl : lv_has ls 13 [(0, .ref (ad 20)), (10, .int x8)]), W p l e ({ frames := 1, cells := 0, slots := 0, locals := 20 }) s m ([.ref (ad 20), .int a1, .int a2, .int a3] : List Value).toArray below meth c H locs 0 0 (MQ below (va_Qi (fun r N => r = sp_X7_sprite M a1 a2 a3 ∧ N = M) (OW D cy ad L s.heap.size) (fA ad L s.heap.size)) ([.ref (ad 20), .int a1, .int a2, .int a3] : List Value).toArray s 0 0 (fA ad L s.heap.size)) (F0 m 205 ls [.int x10, .int x5]) := by
    intro x5 x8 x10 H locs ls  hT hC hl
    have hT : sp_X7_sprite M a1 a2 a3 = if x5 = x10 then (sp_X7_sprite_B248 M x8 1) else (sp_X7_sprite_B212 M x8) := hT
    refine lv_icmp_ne (tgt := 212) hx hb dX7_sprite_205 (by decide) (fun c205 => ?_) (fun c205 => ?_)
    · have hT : sp_X7_sprite M a1 a2 a3 = sp_X7_sprite_B212 M x8 := hT.trans (if_neg c205)
      exact J212 x8 _ _ _  hT hC (lv_sub hl [0, 1] rfl)
    · have hT : sp_X7_sprite M a1 a2 a3 = sp_X7_sprite_B248 M x8 1 := hT.trans (if_pos c205)
      refine lv_iconst (v := 1) hx hb dX7_sprite_208 (by decide) ?_
      refine lv_goto (tgt := 248) hx hb dX7_sprite_209 (by decide) ?_
      exact J248 x8 1 _ _ _  hT hC (lv_sub hl [0, 1] rfl)
  have J171 : ∀ (x4 : Int32) (x5 : Int32) (x6 : Int32) (x8 : Int32) (H : Heap) (locs : List Loc) (ls : Array Slot) (hT : sp_X7_sprite M a1 a2 a3 = sp_X7_sprite_B171 M x4 x5 x6 x8) (hC : Cx D cy ad R0 L (fA ad L s.heap.size) s M H locs) (hl : lv_has ls 13 [(0, .ref (ad 20)), (7, .int x4), (8, .int x5), (9, .int x6)]), W p l e ({ frames := 1, cells := 0, slots := 0, locals := 20 }) s m ([.ref (ad 20), .int a1, .int a2, .int a3] : List Value).toArray below meth c H locs 0 0 (MQ below (va_Qi (fun r N => r = sp_X7_sprite M a1 a2 a3 ∧ N = M) (OW D cy ad L s.heap.size) (fA ad L s.heap.size)) ([.ref (ad 20), .int a1, .int a2, .int a3] : List Value).toArray s 0 0 (fA ad L s.heap.size)) (F0 m 171 ls [.int x8]) := by
    intro x4 x5 x6 x8 H locs ls  hT hC hl
    have hT : sp_X7_sprite M a1 a2 a3 = sp_X7_sprite_n1 M x4 x5 x6 x8 (gI M 25 0) := hT
    refine lv_istore (lv' := [(10, .int x8), (0, .ref (ad 20)), (7, .int x4), (8, .int x5), (9, .int x6)]) hx hb dX7_sprite_171 hl (by decide) rfl (fun ls hl => ?_)
    refine lv_aload_n hx hb dX7_sprite_173 rfl (lv_at hl 1 rfl) ?_
    refine q_getr (T := TX7) hx hb hB uw_X7 hown hK hC rfl (hL 20 (by decide) (by decide)) rfl 18 (by decide) rfl rfl (hB _ mw_3_62) dX7_sprite_174 ?_
    refine lv_iconst (v := 0) hx hb dX7_sprite_177 (by decide) ?_
    refine q_iald (k := 0) hx hb hK hC rfl (hL 25 (by decide) (by decide)) rfl (by unfold vp_in; decide) (by decide) dX7_sprite_178 ?_
    refine lv_topi (fun x9 ex9 => ?_)
    have hT : sp_X7_sprite M a1 a2 a3 = sp_X7_sprite_n1 M x4 x5 x6 x8 x9 := by rw [ex9]; exact hT
    refine lv_istore (lv' := [(11, .int x9), (10, .int x8), (0, .ref (ad 20)), (7, .int x4), (8, .int x5), (9, .int x6)]) hx hb dX7_sprite_179 hl (by decide) rfl (fun ls hl => ?_)
    refine lv_iload hx hb dX7_sprite_181 (lv_at hl 0 rfl) ?_
    refine lv_iconst (v := 2) hx hb dX7_sprite_183 (by decide) ?_
    refine lv_irem hx hb dX7_sprite_184 (by decide) ?_
    refine lv_if_ne (tgt := 216) hx hb dX7_sprite_185 (by decide) (fun c185 => ?_) (fun c185 => ?_)
    · have hT : sp_X7_sprite M a1 a2 a3 = if x5 ≤ 0 then (sp_X7_sprite_B247 M x8) else (if 3 ≤ x5 then (sp_X7_sprite_B247 M x8) else (if x9 = 1 then (sp_X7_sprite_B240 M x4 x8 0) else (sp_X7_sprite_B240 M x4 x8 3))) := hT.trans (if_neg c185)
      refine lv_iload hx hb dX7_sprite_216 (lv_at hl 4 rfl) ?_
      refine lv_if_le (tgt := 247) hx hb dX7_sprite_218 (by decide) (fun c218 => ?_) (fun c218 => ?_)
      · have hT : sp_X7_sprite M a1 a2 a3 = sp_X7_sprite_B247 M x8 := hT.trans (if_pos c218)
        exact J247 x8 _ _ _  hT hC (lv_sub hl [2, 1] rfl)
      · have hT : sp_X7_sprite M a1 a2 a3 = if 3 ≤ x5 then (sp_X7_sprite_B247 M x8) else (if x9 = 1 then (sp_X7_sprite_B240 M x4 x8 0) else (sp_X7_sprite_B240 M x4 x8 3)) := hT.trans (if_neg c218)
        refine lv_iload hx hb dX7_sprite_221 (lv_at hl 4 rfl) ?_
        refine lv_iconst (v := 3) hx hb dX7_sprite_223 (by decide) ?_
        refine lv_icmp_ge (tgt := 247) hx hb dX7_sprite_224 (by decide) (fun c224 => ?_) (fun c224 => ?_)
        · have hT : sp_X7_sprite M a1 a2 a3 = sp_X7_sprite_B247 M x8 := hT.trans (if_pos c224)
          exact J247 x8 _ _ _  hT hC (lv_sub hl [2, 1] rfl)
        · have hT : sp_X7_sprite M a1 a2 a3 = if x9 = 1 then (sp_X7_sprite_B240 M x4 x8 0) else (sp_X7_sprite_B240 M x4 x8 3) := hT.trans (if_neg c224)
          refine lv_iload hx hb dX7_sprite_227 (lv_at hl 3 rfl) ?_
          refine lv_iload hx hb dX7_sprite_229 (lv_at hl 0 rfl) ?_
          refine lv_iconst (v := 1) hx hb dX7_sprite_231 (by decide) ?_
          refine lv_icmp_ne (tgt := 239) hx hb dX7_sprite_232 (by decide) (fun c232 => ?_) (fun c232 => ?_)
          · have hT : sp_X7_sprite M a1 a2 a3 = sp_X7_sprite_B240 M x4 x8 3 := hT.trans (if_neg c232)
            refine lv_iconst (v := 3) hx hb dX7_sprite_239 (by decide) ?_
            exact J240 x4 x8 3 _ _ _  hT hC (lv_sub hl [2, 1] rfl)
          · have hT : sp_X7_sprite M a1 a2 a3 = sp_X7_sprite_B240 M x4 x8 0 := hT.trans (if_pos c232)
            refine lv_iconst (v := 0) hx hb dX7_sprite_235 (by decide) ?_
            refine lv_goto (tgt := 240) hx hb dX7_sprite_236 (by decide) ?_
            exact J240 x4 x8 0 _ _ _  hT hC (lv_sub hl [2, 1] rfl)
    · have hT : sp_X7_sprite M a1 a2 a3 = if x6 = 0 then (if x9 = 0 then (sp_X7_sprite_B205 M x5 x8 0) else (sp_X7_sprite_B205 M x5 x8 3)) else (sp_X7_sprite_B212 M x8) := hT.trans (if_pos c185)
      refine lv_iload hx hb dX7_sprite_188 (lv_at hl 5 rfl) ?_
      refine lv_if_ne (tgt := 212) hx hb dX7_sprite_190 (by decide) (fun c190 => ?_) (fun c190 => ?_)
      · have hT : sp_X7_sprite M a1 a2 a3 = sp_X7_sprite_B212 M x8 := hT.trans (if_neg c190)
        exact J212 x8 _ _ _  hT hC (lv_sub hl [2, 1] rfl)
      · have hT : sp_X7_sprite M a1 a2 a3 = if x9 = 0 then (sp_X7_sprite_B205 M x5 x8 0) else (sp_X7_sprite_B205 M x5 x8 3) := hT.trans (if_pos c190)
        refine lv_iload hx hb dX7_sprite_193 (lv_at hl 4 rfl) ?_
        refine lv_iload hx hb dX7_sprite_195 (lv_at hl 0 rfl) ?_
        refine lv_if_ne (tgt := 204) hx hb dX7_sprite_197 (by decide) (fun c197 => ?_) (fun c197 => ?_)
        · have hT : sp_X7_sprite M a1 a2 a3 = sp_X7_sprite_B205 M x5 x8 3 := hT.trans (if_neg c197)
          refine lv_iconst (v := 3) hx hb dX7_sprite_204 (by decide) ?_
          exact J205 x5 x8 3 _ _ _  hT hC (lv_sub hl [2, 1] rfl)
        · have hT : sp_X7_sprite M a1 a2 a3 = sp_X7_sprite_B205 M x5 x8 0 := hT.trans (if_pos c197)
          refine lv_iconst (v := 0) hx hb dX7_sprite_200 (by decide) ?_
          refine lv_goto (tgt := 205) hx hb dX7_sprite_201 (by decide) ?_
          exact J205 x5 x8 0 _ _ _  hT hC (lv_sub hl [2, 1] rfl)
  have J170 : ∀ (x4 : Int32) (x5 : Int32) (x6 : Int32) (H : Heap) (locs : List Loc) (ls : Array Slot) (hT : sp_X7_sprite M a1 a2 a3 = sp_X7_sprite_B170 M x4 x5 x6) (hC : Cx D cy ad R0 L (fA ad L s.heap.size) s M H locs) (hl : lv_has ls 13 [(0, .ref (ad 20)), (7, .int x4), (8, .int x5), (9, .int x6)]), W p l e ({ frames := 1, cells := 0, slots := 0, locals := 20 }) s m ([.ref (ad 20), .int a1, .int a2, .int a3] : List Value).toArray below meth c H locs 0 0 (MQ below (va_Qi (fun r N => r = sp_X7_sprite M a1 a2 a3 ∧ N = M) (OW D cy ad L s.heap.size) (fA ad L s.heap.size)) ([.ref (ad 20), .int a1, .int a2, .int a3] : List Value).toArray s 0 0 (fA ad L s.heap.size)) (F0 m 170 ls []) := by
    intro x4 x5 x6 H locs ls  hT hC hl
    have hT : sp_X7_sprite M a1 a2 a3 = sp_X7_sprite_B171 M x4 x5 x6 0 := hT
    refine lv_iconst (v := 0) hx hb dX7_sprite_170 (by decide) ?_
    exact J171 x4 x5 x6 0 _ _ _  hT hC (lv_sub hl [0, 1, 2, 3] rfl)
  have J166 : ∀ (x4 : Int32) (x5 : Int32) (x6 : Int32) (H : Heap) (locs : List Loc) (ls : Array Slot) (hT : sp_X7_sprite M a1 a2 a3 = sp_X7_sprite_B166 M x4 x5 x6) (hC : Cx D cy ad R0 L (fA ad L s.heap.size) s M H locs) (hl : lv_has ls 13 [(0, .ref (ad 20)), (7, .int x4), (8, .int x5), (9, .int x6)]), W p l e ({ frames := 1, cells := 0, slots := 0, locals := 20 }) s m ([.ref (ad 20), .int a1, .int a2, .int a3] : List Value).toArray below meth c H locs 0 0 (MQ below (va_Qi (fun r N => r = sp_X7_sprite M a1 a2 a3 ∧ N = M) (OW D cy ad L s.heap.size) (fA ad L s.heap.size)) ([.ref (ad 20), .int a1, .int a2, .int a3] : List Value).toArray s 0 0 (fA ad L s.heap.size)) (F0 m 166 ls []) := by
    intro x4 x5 x6 H locs ls  hT hC hl
    have hT : sp_X7_sprite M a1 a2 a3 = sp_X7_sprite_B171 M x4 x5 x6 1 := hT
    refine lv_iconst (v := 1) hx hb dX7_sprite_166 (by decide) ?_
    refine lv_goto (tgt := 171) hx hb dX7_sprite_167 (by decide) ?_
    exact J171 x4 x5 x6 1 _ _ _  hT hC (lv_sub hl [0, 1, 2, 3] rfl)
  have J149 : ∀ (x7 : Int32) (H : Heap) (locs : List Loc) (ls : Array Slot) (hT : sp_X7_sprite M a1 a2 a3 = sp_X7_sprite_B149 x7) (hC : Cx D cy ad R0 L (fA ad L s.heap.size) s M H locs) (hl : lv_has ls 13 []), W p l e ({ frames := 1, cells := 0, slots := 0, locals := 20 }) s m ([.ref (ad 20), .int a1, .int a2, .int a3] : List Value).toArray below meth c H locs 0 0 (MQ below (va_Qi (fun r N => r = sp_X7_sprite M a1 a2 a3 ∧ N = M) (OW D cy ad L s.heap.size) (fA ad L s.heap.size)) ([.ref (ad 20), .int a1, .int a2, .int a3] : List Value).toArray s 0 0 (fA ad L s.heap.size)) (F0 m 149 ls [.int x7]) := by
    intro x7 H locs ls  hT hC hl
    have hT : sp_X7_sprite M a1 a2 a3 = x7 := hT
    exact q_reti hx hb hr hlocks hC ⟨hT.symm, rfl⟩ dX7_sprite_149
  have J132 : ∀  (H : Heap) (locs : List Loc) (ls : Array Slot) (hT : sp_X7_sprite M a1 a2 a3 = sp_X7_sprite_B132 M a1) (hV : vc_X7_sprite_B132 M a1) (hC : Cx D cy ad R0 L (fA ad L s.heap.size) s M H locs) (hl : lv_has ls 13 [(0, .ref (ad 20)), (1, .int a1)]), W p l e ({ frames := 1, cells := 0, slots := 0, locals := 20 }) s m ([.ref (ad 20), .int a1, .int a2, .int a3] : List Value).toArray below meth c H locs 0 0 (MQ below (va_Qi (fun r N => r = sp_X7_sprite M a1 a2 a3 ∧ N = M) (OW D cy ad L s.heap.size) (fA ad L s.heap.size)) ([.ref (ad 20), .int a1, .int a2, .int a3] : List Value).toArray s 0 0 (fA ad L s.heap.size)) (F0 m 132 ls []) := by
    intro  H locs ls  hT hV hC hl
    have hT : sp_X7_sprite M a1 a2 a3 = if (gI M 27 a1.toNatClampNeg) = 0 then (sp_X7_sprite_B149 (3 + a1)) else (sp_X7_sprite_B149 8) := hT
    have hV : vp_in a1 5 := hV
    refine lv_aload_n hx hb dX7_sprite_132 rfl (lv_at hl 0 rfl) ?_
    refine q_getr (T := TX7) hx hb hB uw_X7 hown hK hC rfl (hL 20 (by decide) (by decide)) rfl 20 (by decide) rfl rfl (hB _ mw_3_64) dX7_sprite_133 ?_
    refine lv_iload_n hx hb dX7_sprite_136 rfl (lv_at hl 1 rfl) ?_
    have w137 : vp_in a1 5 := hV
    refine q_zald hx hb hK hC rfl (hL 27 (by decide) (by decide)) rfl w137 rfl dX7_sprite_137 ?_
    refine lv_if_eq (tgt := 146) hx hb dX7_sprite_138 (by decide) (fun c138 => ?_) (fun c138 => ?_)
    · have hT : sp_X7_sprite M a1 a2 a3 = sp_X7_sprite_B149 (3 + a1) := hT.trans (if_pos c138)
      refine lv_iconst (v := 3) hx hb dX7_sprite_146 (by decide) ?_
      refine lv_iload_n hx hb dX7_sprite_147 rfl (lv_at hl 1 rfl) ?_
      refine lv_iadd hx hb dX7_sprite_148 ?_
      exact J149 (3 + a1) _ _ _  hT hC (lv_sub hl [] rfl)
    · have hT : sp_X7_sprite M a1 a2 a3 = sp_X7_sprite_B149 8 := hT.trans (if_neg c138)
      refine lv_bipush (v := 8) hx hb dX7_sprite_141 (by decide) ?_
      refine lv_goto (tgt := 149) hx hb dX7_sprite_143 (by decide) ?_
      exact J149 8 _ _ _  hT hC (lv_sub hl [] rfl)
  have J112 : ∀ (x4 : Int32) (x5 : Int32) (x6 : Int32) (H : Heap) (locs : List Loc) (ls : Array Slot) (hT : sp_X7_sprite M a1 a2 a3 = sp_X7_sprite_B112 M a1 x4 x5 x6) (hV : vc_X7_sprite_B112 M a1 x4 x5 x6) (hC : Cx D cy ad R0 L (fA ad L s.heap.size) s M H locs) (hl : lv_has ls 13 [(0, .ref (ad 20)), (1, .int a1), (7, .int x4), (8, .int x5)]), W p l e ({ frames := 1, cells := 0, slots := 0, locals := 20 }) s m ([.ref (ad 20), .int a1, .int a2, .int a3] : List Value).toArray below meth c H locs 0 0 (MQ below (va_Qi (fun r N => r = sp_X7_sprite M a1 a2 a3 ∧ N = M) (OW D cy ad L s.heap.size) (fA ad L s.heap.size)) ([.ref (ad 20), .int a1, .int a2, .int a3] : List Value).toArray s 0 0 (fA ad L s.heap.size)) (F0 m 112 ls [.int x6]) := by
    intro x4 x5 x6 H locs ls  hT hV hC hl
    have hT : sp_X7_sprite M a1 a2 a3 = if a1 ≤ 0 then (if x6 = 0 then (sp_X7_sprite_B170 M x4 x5 x6) else (if x5 = 0 then (sp_X7_sprite_B166 M x4 x5 x6) else (if x5 = 3 then (sp_X7_sprite_B166 M x4 x5 x6) else (sp_X7_sprite_B170 M x4 x5 x6)))) else (if x6 = 0 then (sp_X7_sprite_B132 M a1) else (if x5 = 0 then (sp_X7_sprite_B149 0) else (sp_X7_sprite_B132 M a1))) := hT
    have hV : if a1 ≤ 0 then True else (if x6 = 0 then vc_X7_sprite_B132 M a1 else (if x5 = 0 then True else vc_X7_sprite_B132 M a1)) := hV
    refine lv_istore (lv' := [(9, .int x6), (0, .ref (ad 20)), (1, .int a1), (7, .int x4), (8, .int x5)]) hx hb dX7_sprite_112 hl (by decide) rfl (fun ls hl => ?_)
    refine lv_iload_n hx hb dX7_sprite_114 rfl (lv_at hl 2 rfl) ?_
    refine lv_if_le (tgt := 150) hx hb dX7_sprite_115 (by decide) (fun c115 => ?_) (fun c115 => ?_)
    · have hT : sp_X7_sprite M a1 a2 a3 = if x6 = 0 then (sp_X7_sprite_B170 M x4 x5 x6) else (if x5 = 0 then (sp_X7_sprite_B166 M x4 x5 x6) else (if x5 = 3 then (sp_X7_sprite_B166 M x4 x5 x6) else (sp_X7_sprite_B170 M x4 x5 x6))) := hT.trans (if_pos c115)
      refine lv_iload hx hb dX7_sprite_150 (lv_at hl 0 rfl) ?_
      refine lv_if_eq (tgt := 170) hx hb dX7_sprite_152 (by decide) (fun c152 => ?_) (fun c152 => ?_)
      · have hT : sp_X7_sprite M a1 a2 a3 = sp_X7_sprite_B170 M x4 x5 x6 := hT.trans (if_pos c152)
        exact J170 x4 x5 x6 _ _ _  hT hC (lv_sub hl [1, 3, 4, 0] rfl)
      · have hT : sp_X7_sprite M a1 a2 a3 = if x5 = 0 then (sp_X7_sprite_B166 M x4 x5 x6) else (if x5 = 3 then (sp_X7_sprite_B166 M x4 x5 x6) else (sp_X7_sprite_B170 M x4 x5 x6)) := hT.trans (if_neg c152)
        refine lv_iload hx hb dX7_sprite_155 (lv_at hl 4 rfl) ?_
        refine lv_if_eq (tgt := 166) hx hb dX7_sprite_157 (by decide) (fun c157 => ?_) (fun c157 => ?_)
        · have hT : sp_X7_sprite M a1 a2 a3 = sp_X7_sprite_B166 M x4 x5 x6 := hT.trans (if_pos c157)
          exact J166 x4 x5 x6 _ _ _  hT hC (lv_sub hl [1, 3, 4, 0] rfl)
        · have hT : sp_X7_sprite M a1 a2 a3 = if x5 = 3 then (sp_X7_sprite_B166 M x4 x5 x6) else (sp_X7_sprite_B170 M x4 x5 x6) := hT.trans (if_neg c157)
          refine lv_iload hx hb dX7_sprite_160 (lv_at hl 4 rfl) ?_
          refine lv_iconst (v := 3) hx hb dX7_sprite_162 (by decide) ?_
          refine lv_icmp_ne (tgt := 170) hx hb dX7_sprite_163 (by decide) (fun c163 => ?_) (fun c163 => ?_)
          · have hT : sp_X7_sprite M a1 a2 a3 = sp_X7_sprite_B170 M x4 x5 x6 := hT.trans (if_neg c163)
            exact J170 x4 x5 x6 _ _ _  hT hC (lv_sub hl [1, 3, 4, 0] rfl)
          · have hT : sp_X7_sprite M a1 a2 a3 = sp_X7_sprite_B166 M x4 x5 x6 := hT.trans (if_pos c163)
            exact J166 x4 x5 x6 _ _ _  hT hC (lv_sub hl [1, 3, 4, 0] rfl)
    · have hT : sp_X7_sprite M a1 a2 a3 = if x6 = 0 then (sp_X7_sprite_B132 M a1) else (if x5 = 0 then (sp_X7_sprite_B149 0) else (sp_X7_sprite_B132 M a1)) := hT.trans (if_neg c115)
      have hV : if x6 = 0 then vc_X7_sprite_B132 M a1 else (if x5 = 0 then True else vc_X7_sprite_B132 M a1) := iteF hV c115
      refine lv_iload hx hb dX7_sprite_118 (lv_at hl 0 rfl) ?_
      refine lv_if_eq (tgt := 132) hx hb dX7_sprite_120 (by decide) (fun c120 => ?_) (fun c120 => ?_)
      · have hT : sp_X7_sprite M a1 a2 a3 = sp_X7_sprite_B132 M a1 := hT.trans (if_pos c120)
        have hV : vc_X7_sprite_B132 M a1 := iteT hV c120
        exact J132  _ _ _  hT hV hC (lv_sub hl [1, 2] rfl)
      · have hT : sp_X7_sprite M a1 a2 a3 = if x5 = 0 then (sp_X7_sprite_B149 0) else (sp_X7_sprite_B132 M a1) := hT.trans (if_neg c120)
        have hV : if x5 = 0 then True else vc_X7_sprite_B132 M a1 := iteF hV c120
        refine lv_iload hx hb dX7_sprite_123 (lv_at hl 4 rfl) ?_
        refine lv_if_ne (tgt := 132) hx hb dX7_sprite_125 (by decide) (fun c125 => ?_) (fun c125 => ?_)
        · have hT : sp_X7_sprite M a1 a2 a3 = sp_X7_sprite_B132 M a1 := hT.trans (if_neg c125)
          have hV : vc_X7_sprite_B132 M a1 := iteF hV c125
          exact J132  _ _ _  hT hV hC (lv_sub hl [1, 2] rfl)
        · have hT : sp_X7_sprite M a1 a2 a3 = sp_X7_sprite_B149 0 := hT.trans (if_pos c125)
          refine lv_iconst (v := 0) hx hb dX7_sprite_128 (by decide) ?_
          refine lv_goto (tgt := 149) hx hb dX7_sprite_129 (by decide) ?_
          exact J149 0 _ _ _  hT hC (lv_sub hl [] rfl)
  have J107 : ∀ (x4 : Int32) (x5 : Int32) (H : Heap) (locs : List Loc) (ls : Array Slot) (hT : sp_X7_sprite M a1 a2 a3 = sp_X7_sprite_B107 M a1 x4 x5) (hV : vc_X7_sprite_B107 M a1 x4 x5) (hC : Cx D cy ad R0 L (fA ad L s.heap.size) s M H locs) (hl : lv_has ls 13 [(0, .ref (ad 20)), (1, .int a1), (7, .int x4), (8, .int x5)]), W p l e ({ frames := 1, cells := 0, slots := 0, locals := 20 }) s m ([.ref (ad 20), .int a1, .int a2, .int a3] : List Value).toArray below meth c H locs 0 0 (MQ below (va_Qi (fun r N => r = sp_X7_sprite M a1 a2 a3 ∧ N = M) (OW D cy ad L s.heap.size) (fA ad L s.heap.size)) ([.ref (ad 20), .int a1, .int a2, .int a3] : List Value).toArray s 0 0 (fA ad L s.heap.size)) (F0 m 107 ls []) := by
    intro x4 x5 H locs ls  hT hV hC hl
    have hT : sp_X7_sprite M a1 a2 a3 = sp_X7_sprite_B112 M a1 x4 x5 1 := hT
    have hV : vc_X7_sprite_B112 M a1 x4 x5 1 := hV
    refine lv_iconst (v := 1) hx hb dX7_sprite_107 (by decide) ?_
    refine lv_goto (tgt := 112) hx hb dX7_sprite_108 (by decide) ?_
    exact J112 x4 x5 1 _ _ _  hT hV hC (lv_sub hl [0, 1, 2, 3] rfl)
  have J94 : ∀  (H : Heap) (locs : List Loc) (ls : Array Slot) (hT : sp_X7_sprite M a1 a2 a3 = sp_X7_sprite_B94 ) (hC : Cx D cy ad R0 L (fA ad L s.heap.size) s M H locs) (hl : lv_has ls 13 []), W p l e ({ frames := 1, cells := 0, slots := 0, locals := 20 }) s m ([.ref (ad 20), .int a1, .int a2, .int a3] : List Value).toArray below meth c H locs 0 0 (MQ below (va_Qi (fun r N => r = sp_X7_sprite M a1 a2 a3 ∧ N = M) (OW D cy ad L s.heap.size) (fA ad L s.heap.size)) ([.ref (ad 20), .int a1, .int a2, .int a3] : List Value).toArray s 0 0 (fA ad L s.heap.size)) (F0 m 94 ls []) := by
    intro  H locs ls  hT hC hl
    have hT : sp_X7_sprite M a1 a2 a3 = 0 := hT
    refine lv_iconst (v := 0) hx hb dX7_sprite_94 (by decide) ?_
    exact q_reti hx hb hr hlocks hC ⟨hT.symm, rfl⟩ dX7_sprite_95
  have hT : sp_X7_sprite M a1 a2 a3 = sp_X7_sprite_n6 M a1 a2 a3 (FP.f2i (FP.fmul (gF M 26 a1.toNatClampNeg) 1082130432)) := rfl
  have hV : vp_in a1 5 ∧ ((vf_n32 (FP.fmul (gF M 26 a1.toNatClampNeg) 1082130432)) ∧ (vc_X7_sprite_n6 M a1 a2 a3 (FP.f2i (FP.fmul (gF M 26 a1.toNatClampNeg) 1082130432)))) := hV
  refine lv_aload_n hx hb dX7_sprite_0 rfl (lv_at hl 0 rfl) ?_
  refine q_getr (T := TX7) hx hb hB uw_X7 hown hK hC rfl (hL 20 (by decide) (by decide)) rfl 19 (by decide) rfl rfl (hB _ mw_3_63) dX7_sprite_1 ?_
  refine lv_iload_n hx hb dX7_sprite_4 rfl (lv_at hl 1 rfl) ?_
  obtain ⟨w5, hV⟩ : vp_in a1 5 ∧ ((vf_n32 (FP.fmul (gF M 26 a1.toNatClampNeg) 1082130432)) ∧ (vc_X7_sprite_n6 M a1 a2 a3 (FP.f2i (FP.fmul (gF M 26 a1.toNatClampNeg) 1082130432)))) := hV
  refine q_fald hx hb hK hC rfl (hL 26 (by decide) (by decide)) rfl w5 rfl dX7_sprite_5 ?_
  refine lv_ldcf (v := 1082130432) hx hb hown (hB _ mw_4_55) dX7_sprite_6 ?_
  obtain ⟨w8, hV⟩ : (vf_n32 (FP.fmul (gF M 26 a1.toNatClampNeg) 1082130432)) ∧ (vc_X7_sprite_n6 M a1 a2 a3 (FP.f2i (FP.fmul (gF M 26 a1.toNatClampNeg) 1082130432))) := hV
  refine lv_fmul hx hb dX7_sprite_8 w8 ?_
  refine lv_f2i hx hb dX7_sprite_9 ?_
  refine lv_topi (fun x1 ex1 => ?_)
  have hT : sp_X7_sprite M a1 a2 a3 = sp_X7_sprite_n6 M a1 a2 a3 x1 := by rw [ex1]; exact hT
  have hV : vc_X7_sprite_n6 M a1 a2 a3 x1 := by rw [ex1]; exact hV
  refine lv_istore (lv' := [(4, .int x1), (0, .ref (ad 20)), (1, .int a1), (2, .int a2), (3, .int a3)]) hx hb dX7_sprite_10 hl (by decide) rfl (fun ls hl => ?_)
  refine lv_iconst (v := 4) hx hb dX7_sprite_12 (by decide) ?_
  refine lv_aload_n hx hb dX7_sprite_13 rfl (lv_at hl 1 rfl) ?_
  refine q_getr (T := TX7) hx hb hB uw_X7 hown hK hC rfl (hL 20 (by decide) (by decide)) rfl 16 (by decide) rfl rfl (hB _ mw_3_60) dX7_sprite_14 ?_
  refine lv_iload_n hx hb dX7_sprite_17 rfl (lv_at hl 2 rfl) ?_
  obtain ⟨w18, hV⟩ : vp_in a1 5 ∧ (vp_in a1 5 ∧ (vc_X7_sprite_n5 M a1 a2 a3 x1 ((4 * (gI M 23 a1.toNatClampNeg)) + (x1 * (sp_X7_across (gI M 25 a1.toNatClampNeg)))))) := hV
  refine q_iald hx hb hK hC rfl (hL 23 (by decide) (by decide)) rfl w18 rfl dX7_sprite_18 ?_
  refine lv_imul hx hb dX7_sprite_19 ?_
  refine lv_iload hx hb dX7_sprite_20 (lv_at hl 0 rfl) ?_
  refine lv_aload_n hx hb dX7_sprite_22 rfl (lv_at hl 1 rfl) ?_
  refine q_getr (T := TX7) hx hb hB uw_X7 hown hK hC rfl (hL 20 (by decide) (by decide)) rfl 18 (by decide) rfl rfl (hB _ mw_3_62) dX7_sprite_23 ?_
  refine lv_iload_n hx hb dX7_sprite_26 rfl (lv_at hl 2 rfl) ?_
  obtain ⟨w27, hV⟩ : vp_in a1 5 ∧ (vc_X7_sprite_n5 M a1 a2 a3 x1 ((4 * (gI M 23 a1.toNatClampNeg)) + (x1 * (sp_X7_across (gI M 25 a1.toNatClampNeg))))) := hV
  refine q_iald hx hb hK hC rfl (hL 25 (by decide) (by decide)) rfl w27 rfl dX7_sprite_27 ?_
  refine q_Ci (q_S (own := "MazeBoardModel") (y := yX7_across) (As := [.int (gI M 25 a1.toNatClampNeg)]) (rest := [.int x1, .int (4 * (gI M 23 a1.toNatClampNeg))]) ⟨hx, hb, hml, hown, hB⟩ hK hE hC (c_X7_across l D cy ad L H.size M (gI M 25 a1.toNatClampNeg)) mw_3_192 mw_3_193 mw_1_7 mw_3_194 yd_X7_across ⟨rfl, rfl⟩ ⟨Nat.le_of_ble_eq_true rfl, Nat.le_of_ble_eq_true rfl⟩ rfl hl.1 rfl (Nat.le_of_ble_eq_true rfl) dX7_sprite_28 ⟨Nat.le_refl _, Nat.le_refl _⟩) hC (fun r N_ H locs hp hC => ?_)
  obtain ⟨hr_, hM_⟩ := hp
  subst hr_
  rw [hM_] at hC
  refine lv_imul hx hb dX7_sprite_31 ?_
  refine lv_iadd hx hb dX7_sprite_32 ?_
  refine lv_topi (fun x2 ex2 => ?_)
  have hT : sp_X7_sprite M a1 a2 a3 = sp_X7_sprite_n5 M a1 a2 a3 x1 x2 := by rw [ex2]; exact hT
  have hV : vc_X7_sprite_n5 M a1 a2 a3 x1 x2 := by rw [ex2]; exact hV
  refine lv_istore (lv' := [(5, .int x2), (4, .int x1), (0, .ref (ad 20)), (1, .int a1), (2, .int a2), (3, .int a3)]) hx hb dX7_sprite_33 hl (by decide) rfl (fun ls hl => ?_)
  refine lv_iconst (v := 4) hx hb dX7_sprite_35 (by decide) ?_
  refine lv_aload_n hx hb dX7_sprite_36 rfl (lv_at hl 2 rfl) ?_
  refine q_getr (T := TX7) hx hb hB uw_X7 hown hK hC rfl (hL 20 (by decide) (by decide)) rfl 17 (by decide) rfl rfl (hB _ mw_3_61) dX7_sprite_37 ?_
  refine lv_iload_n hx hb dX7_sprite_40 rfl (lv_at hl 3 rfl) ?_
  obtain ⟨w41, hV⟩ : vp_in a1 5 ∧ (vp_in a1 5 ∧ (vc_X7_sprite_n4 M a1 a2 a3 x2 ((4 * (gI M 24 a1.toNatClampNeg)) + (x1 * (sp_X7_down (gI M 25 a1.toNatClampNeg)))))) := hV
  refine q_iald hx hb hK hC rfl (hL 24 (by decide) (by decide)) rfl w41 rfl dX7_sprite_41 ?_
  refine lv_imul hx hb dX7_sprite_42 ?_
  refine lv_iload hx hb dX7_sprite_43 (lv_at hl 1 rfl) ?_
  refine lv_aload_n hx hb dX7_sprite_45 rfl (lv_at hl 2 rfl) ?_
  refine q_getr (T := TX7) hx hb hB uw_X7 hown hK hC rfl (hL 20 (by decide) (by decide)) rfl 18 (by decide) rfl rfl (hB _ mw_3_62) dX7_sprite_46 ?_
  refine lv_iload_n hx hb dX7_sprite_49 rfl (lv_at hl 3 rfl) ?_
  obtain ⟨w50, hV⟩ : vp_in a1 5 ∧ (vc_X7_sprite_n4 M a1 a2 a3 x2 ((4 * (gI M 24 a1.toNatClampNeg)) + (x1 * (sp_X7_down (gI M 25 a1.toNatClampNeg))))) := hV
  refine q_iald hx hb hK hC rfl (hL 25 (by decide) (by decide)) rfl w50 rfl dX7_sprite_50 ?_
  refine q_Ci (q_S (own := "MazeBoardModel") (y := yX7_down) (As := [.int (gI M 25 a1.toNatClampNeg)]) (rest := [.int x1, .int (4 * (gI M 24 a1.toNatClampNeg))]) ⟨hx, hb, hml, hown, hB⟩ hK hE hC (c_X7_down l D cy ad L H.size M (gI M 25 a1.toNatClampNeg)) mw_3_185 mw_3_186 mw_1_7 mw_3_187 yd_X7_down ⟨rfl, rfl⟩ ⟨Nat.le_of_ble_eq_true rfl, Nat.le_of_ble_eq_true rfl⟩ rfl hl.1 rfl (Nat.le_of_ble_eq_true rfl) dX7_sprite_51 ⟨Nat.le_refl _, Nat.le_refl _⟩) hC (fun r N_ H locs hp hC => ?_)
  obtain ⟨hr_, hM_⟩ := hp
  subst hr_
  rw [hM_] at hC
  refine lv_imul hx hb dX7_sprite_54 ?_
  refine lv_iadd hx hb dX7_sprite_55 ?_
  refine lv_topi (fun x3 ex3 => ?_)
  have hT : sp_X7_sprite M a1 a2 a3 = sp_X7_sprite_n4 M a1 a2 a3 x2 x3 := by rw [ex3]; exact hT
  have hV : vc_X7_sprite_n4 M a1 a2 a3 x2 x3 := by rw [ex3]; exact hV
  refine lv_istore (lv' := [(6, .int x3), (5, .int x2), (4, .int x1), (0, .ref (ad 20)), (1, .int a1), (2, .int a2), (3, .int a3)]) hx hb dX7_sprite_56 hl (by decide) rfl (fun ls hl => ?_)
  refine lv_iload_n hx hb dX7_sprite_58 rfl (lv_at hl 5 rfl) ?_
  refine lv_iload hx hb dX7_sprite_59 (lv_at hl 1 rfl) ?_
  refine lv_isub hx hb dX7_sprite_61 ?_
  refine lv_bipush (v := 104) hx hb dX7_sprite_62 (by decide) ?_
  refine lv_iadd hx hb dX7_sprite_64 ?_
  refine lv_bipush (v := 52) hx hb dX7_sprite_65 (by decide) ?_
  refine lv_irem hx hb dX7_sprite_67 (by decide) ?_
  refine lv_topi (fun x4 ex4 => ?_)
  have hT : sp_X7_sprite M a1 a2 a3 = sp_X7_sprite_n3 M a1 a3 x3 x4 := by rw [ex4]; exact hT
  have hV : vc_X7_sprite_n3 M a1 a3 x3 x4 := by rw [ex4]; exact hV
  refine lv_istore (lv' := [(7, .int x4), (6, .int x3), (5, .int x2), (4, .int x1), (0, .ref (ad 20)), (1, .int a1), (2, .int a2), (3, .int a3)]) hx hb dX7_sprite_68 hl (by decide) rfl (fun ls hl => ?_)
  refine lv_iload_n hx hb dX7_sprite_70 rfl (lv_at hl 7 rfl) ?_
  refine lv_iload hx hb dX7_sprite_71 (lv_at hl 1 rfl) ?_
  refine lv_isub hx hb dX7_sprite_73 ?_
  refine lv_bipush (v := 72) hx hb dX7_sprite_74 (by decide) ?_
  refine lv_iadd hx hb dX7_sprite_76 ?_
  refine lv_bipush (v := 36) hx hb dX7_sprite_77 (by decide) ?_
  refine lv_irem hx hb dX7_sprite_79 (by decide) ?_
  refine lv_topi (fun x5 ex5 => ?_)
  have hT : sp_X7_sprite M a1 a2 a3 = sp_X7_sprite_n2 M a1 x4 x5 := by rw [ex5]; exact hT
  have hV : vc_X7_sprite_n2 M a1 x4 x5 := by rw [ex5]; exact hV
  refine lv_istore (lv' := [(8, .int x5), (7, .int x4), (6, .int x3), (5, .int x2), (4, .int x1), (0, .ref (ad 20)), (1, .int a1), (2, .int a2), (3, .int a3)]) hx hb dX7_sprite_80 hl (by decide) rfl (fun ls hl => ?_)
  refine lv_iload hx hb dX7_sprite_82 (lv_at hl 1 rfl) ?_
  refine lv_iconst (v := 3) hx hb dX7_sprite_84 (by decide) ?_
  refine lv_icmp_gt (tgt := 94) hx hb dX7_sprite_85 (by decide) (fun c85 => ?_) (fun c85 => ?_)
  · have hT : sp_X7_sprite M a1 a2 a3 = sp_X7_sprite_B94 := hT.trans (if_pos c85)
    exact J94  _ _ _  hT hC (lv_sub hl [] rfl)
  · have hT : sp_X7_sprite M a1 a2 a3 = if x5 ≤ 3 then (if x4 = 0 then (sp_X7_sprite_B107 M a1 x4 x5) else (if x4 = 3 then (sp_X7_sprite_B107 M a1 x4 x5) else (sp_X7_sprite_B112 M a1 x4 x5 0))) else sp_X7_sprite_B94 := hT.trans (if_neg c85)
    have hV : if x5 ≤ 3 then (if x4 = 0 then vc_X7_sprite_B107 M a1 x4 x5 else (if x4 = 3 then vc_X7_sprite_B107 M a1 x4 x5 else vc_X7_sprite_B112 M a1 x4 x5 0)) else True := iteF hV c85
    refine lv_iload hx hb dX7_sprite_88 (lv_at hl 0 rfl) ?_
    refine lv_iconst (v := 3) hx hb dX7_sprite_90 (by decide) ?_
    refine lv_icmp_le (tgt := 96) hx hb dX7_sprite_91 (by decide) (fun c91 => ?_) (fun c91 => ?_)
    · have hT : sp_X7_sprite M a1 a2 a3 = if x4 = 0 then (sp_X7_sprite_B107 M a1 x4 x5) else (if x4 = 3 then (sp_X7_sprite_B107 M a1 x4 x5) else (sp_X7_sprite_B112 M a1 x4 x5 0)) := hT.trans (if_pos c91)
      have hV : if x4 = 0 then vc_X7_sprite_B107 M a1 x4 x5 else (if x4 = 3 then vc_X7_sprite_B107 M a1 x4 x5 else vc_X7_sprite_B112 M a1 x4 x5 0) := iteT hV c91
      refine lv_iload hx hb dX7_sprite_96 (lv_at hl 1 rfl) ?_
      refine lv_if_eq (tgt := 107) hx hb dX7_sprite_98 (by decide) (fun c98 => ?_) (fun c98 => ?_)
      · have hT : sp_X7_sprite M a1 a2 a3 = sp_X7_sprite_B107 M a1 x4 x5 := hT.trans (if_pos c98)
        have hV : vc_X7_sprite_B107 M a1 x4 x5 := iteT hV c98
        exact J107 x4 x5 _ _ _  hT hV hC (lv_sub hl [5, 6, 1, 0] rfl)
      · have hT : sp_X7_sprite M a1 a2 a3 = if x4 = 3 then (sp_X7_sprite_B107 M a1 x4 x5) else (sp_X7_sprite_B112 M a1 x4 x5 0) := hT.trans (if_neg c98)
        have hV : if x4 = 3 then vc_X7_sprite_B107 M a1 x4 x5 else vc_X7_sprite_B112 M a1 x4 x5 0 := iteF hV c98
        refine lv_iload hx hb dX7_sprite_101 (lv_at hl 1 rfl) ?_
        refine lv_iconst (v := 3) hx hb dX7_sprite_103 (by decide) ?_
        refine lv_icmp_ne (tgt := 111) hx hb dX7_sprite_104 (by decide) (fun c104 => ?_) (fun c104 => ?_)
        · have hT : sp_X7_sprite M a1 a2 a3 = sp_X7_sprite_B112 M a1 x4 x5 0 := hT.trans (if_neg c104)
          have hV : vc_X7_sprite_B112 M a1 x4 x5 0 := iteF hV c104
          refine lv_iconst (v := 0) hx hb dX7_sprite_111 (by decide) ?_
          exact J112 x4 x5 0 _ _ _  hT hV hC (lv_sub hl [5, 6, 1, 0] rfl)
        · have hT : sp_X7_sprite M a1 a2 a3 = sp_X7_sprite_B107 M a1 x4 x5 := hT.trans (if_pos c104)
          have hV : vc_X7_sprite_B107 M a1 x4 x5 := iteT hV c104
          exact J107 x4 x5 _ _ _  hT hV hC (lv_sub hl [5, 6, 1, 0] rfl)
    · have hT : sp_X7_sprite M a1 a2 a3 = sp_X7_sprite_B94 := hT.trans (if_neg c91)
      exact J94  _ _ _  hT hC (lv_sub hl [] rfl)
set_option maxHeartbeats 4000000 in
set_option maxRecDepth 100000 in
theorem c_X7_point (l : Launch) (D : va_G) (cy ad : Nat → Nat) (L : List Nat) (sz : Nat) (hL : lr 20 34 L) (M : Mem) (a1 : Int32) (a2 : Int32) (hV : vc_X7_point M a1 a2) : Met l yX7_point (Cond.code yX7_point cX7_point 6 (some .int) :: BG) ({ frames := 2, cells := 0, slots := 0, locals := 52 }) (va_Pc [.ref (ad 20), .int a1, .int a2] (PW D cy ad L M sz)) (va_Qi (fun r N => r = sp_X7_point M a1 a2 ∧ N = M) (OW D cy ad L sz) (fA ad L sz)) 0 0 (fA ad L sz) := by
  refine q_start (by decide) (Nat.le_of_ble_eq_true rfl) (fun p e s m below meth c H locs ls hsz hx hb hr hlocks hml hown hB hK hE hC hl => ?_)
  subst hsz
  have hown : s.vm.findClass "MazeBoardModel" = some m.cls := hown
  have hl : lv_has ls 6 [(0, .ref (ad 20)), (1, .int a1), (2, .int a2)] := hl
  have J175 : ∀ (x8 : Int32) (H : Heap) (locs : List Loc) (ls : Array Slot) (hT : sp_X7_point M a1 a2 = sp_X7_point_B175 x8) (hC : Cx D cy ad R0 L (fA ad L s.heap.size) s M H locs) (hl : lv_has ls 6 []), W p l e ({ frames := 2, cells := 0, slots := 0, locals := 52 }) s m ([.ref (ad 20), .int a1, .int a2] : List Value).toArray below meth c H locs 0 0 (MQ below (va_Qi (fun r N => r = sp_X7_point M a1 a2 ∧ N = M) (OW D cy ad L s.heap.size) (fA ad L s.heap.size)) ([.ref (ad 20), .int a1, .int a2] : List Value).toArray s 0 0 (fA ad L s.heap.size)) (F0 m 175 ls [.int x8]) := by
    intro x8 H locs ls  hT hC hl
    have hT : sp_X7_point M a1 a2 = x8 := hT
    exact q_reti hx hb hr hlocks hC ⟨hT.symm, rfl⟩ dX7_point_175
  have J174 : ∀  (H : Heap) (locs : List Loc) (ls : Array Slot) (hT : sp_X7_point M a1 a2 = sp_X7_point_B174 ) (hC : Cx D cy ad R0 L (fA ad L s.heap.size) s M H locs) (hl : lv_has ls 6 []), W p l e ({ frames := 2, cells := 0, slots := 0, locals := 52 }) s m ([.ref (ad 20), .int a1, .int a2] : List Value).toArray below meth c H locs 0 0 (MQ below (va_Qi (fun r N => r = sp_X7_point M a1 a2 ∧ N = M) (OW D cy ad L s.heap.size) (fA ad L s.heap.size)) ([.ref (ad 20), .int a1, .int a2] : List Value).toArray s 0 0 (fA ad L s.heap.size)) (F0 m 174 ls []) := by
    intro  H locs ls  hT hC hl
    have hT : sp_X7_point M a1 a2 = sp_X7_point_B175 0 := hT
    refine lv_iconst (v := 0) hx hb dX7_point_174 (by decide) ?_
    exact J175 0 _ _ _  hT hC (lv_sub hl [] rfl)
  have J158 : ∀ (x7 : Int32) (H : Heap) (locs : List Loc) (ls : Array Slot) (hT : sp_X7_point M a1 a2 = sp_X7_point_B158 x7) (hC : Cx D cy ad R0 L (fA ad L s.heap.size) s M H locs) (hl : lv_has ls 6 []), W p l e ({ frames := 2, cells := 0, slots := 0, locals := 52 }) s m ([.ref (ad 20), .int a1, .int a2] : List Value).toArray below meth c H locs 0 0 (MQ below (va_Qi (fun r N => r = sp_X7_point M a1 a2 ∧ N = M) (OW D cy ad L s.heap.size) (fA ad L s.heap.size)) ([.ref (ad 20), .int a1, .int a2] : List Value).toArray s 0 0 (fA ad L s.heap.size)) (F0 m 158 ls [.int x7]) := by
    intro x7 H locs ls  hT hC hl
    have hT : sp_X7_point M a1 a2 = x7 := hT
    exact q_reti hx hb hr hlocks hC ⟨hT.symm, rfl⟩ dX7_point_158
  have J157 : ∀  (H : Heap) (locs : List Loc) (ls : Array Slot) (hT : sp_X7_point M a1 a2 = sp_X7_point_B157 ) (hC : Cx D cy ad R0 L (fA ad L s.heap.size) s M H locs) (hl : lv_has ls 6 []), W p l e ({ frames := 2, cells := 0, slots := 0, locals := 52 }) s m ([.ref (ad 20), .int a1, .int a2] : List Value).toArray below meth c H locs 0 0 (MQ below (va_Qi (fun r N => r = sp_X7_point M a1 a2 ∧ N = M) (OW D cy ad L s.heap.size) (fA ad L s.heap.size)) ([.ref (ad 20), .int a1, .int a2] : List Value).toArray s 0 0 (fA ad L s.heap.size)) (F0 m 157 ls []) := by
    intro  H locs ls  hT hC hl
    have hT : sp_X7_point M a1 a2 = sp_X7_point_B158 0 := hT
    refine lv_iconst (v := 0) hx hb dX7_point_157 (by decide) ?_
    exact J158 0 _ _ _  hT hC (lv_sub hl [] rfl)
  have J115 : ∀ (x6 : Int32) (H : Heap) (locs : List Loc) (ls : Array Slot) (hT : sp_X7_point M a1 a2 = sp_X7_point_B115 x6) (hC : Cx D cy ad R0 L (fA ad L s.heap.size) s M H locs) (hl : lv_has ls 6 []), W p l e ({ frames := 2, cells := 0, slots := 0, locals := 52 }) s m ([.ref (ad 20), .int a1, .int a2] : List Value).toArray below meth c H locs 0 0 (MQ below (va_Qi (fun r N => r = sp_X7_point M a1 a2 ∧ N = M) (OW D cy ad L s.heap.size) (fA ad L s.heap.size)) ([.ref (ad 20), .int a1, .int a2] : List Value).toArray s 0 0 (fA ad L s.heap.size)) (F0 m 115 ls [.int x6]) := by
    intro x6 H locs ls  hT hC hl
    have hT : sp_X7_point M a1 a2 = x6 := hT
    exact q_reti hx hb hr hlocks hC ⟨hT.symm, rfl⟩ dX7_point_115
  have J114 : ∀  (H : Heap) (locs : List Loc) (ls : Array Slot) (hT : sp_X7_point M a1 a2 = sp_X7_point_B114 ) (hC : Cx D cy ad R0 L (fA ad L s.heap.size) s M H locs) (hl : lv_has ls 6 []), W p l e ({ frames := 2, cells := 0, slots := 0, locals := 52 }) s m ([.ref (ad 20), .int a1, .int a2] : List Value).toArray below meth c H locs 0 0 (MQ below (va_Qi (fun r N => r = sp_X7_point M a1 a2 ∧ N = M) (OW D cy ad L s.heap.size) (fA ad L s.heap.size)) ([.ref (ad 20), .int a1, .int a2] : List Value).toArray s 0 0 (fA ad L s.heap.size)) (F0 m 114 ls []) := by
    intro  H locs ls  hT hC hl
    have hT : sp_X7_point M a1 a2 = sp_X7_point_B115 0 := hT
    refine lv_iconst (v := 0) hx hb dX7_point_114 (by decide) ?_
    exact J115 0 _ _ _  hT hC (lv_sub hl [] rfl)
  have J60 : ∀  (H : Heap) (locs : List Loc) (ls : Array Slot) (hT : sp_X7_point M a1 a2 = sp_X7_point_B60 M a1 a2) (hV : vc_X7_point_B60 M a1 a2) (hC : Cx D cy ad R0 L (fA ad L s.heap.size) s M H locs) (hl : lv_has ls 6 [(0, .ref (ad 20)), (1, .int a1), (2, .int a2)]), W p l e ({ frames := 2, cells := 0, slots := 0, locals := 52 }) s m ([.ref (ad 20), .int a1, .int a2] : List Value).toArray below meth c H locs 0 0 (MQ below (va_Qi (fun r N => r = sp_X7_point M a1 a2 ∧ N = M) (OW D cy ad L s.heap.size) (fA ad L s.heap.size)) ([.ref (ad 20), .int a1, .int a2] : List Value).toArray s 0 0 (fA ad L s.heap.size)) (F0 m 60 ls []) := by
    intro  H locs ls  hT hV hC hl
    have hT : sp_X7_point M a1 a2 = sp_X7_point_n3 M a1 a2 (gI M 22 (((13 * (a2 / 4)) + (a1 / 4)).toNatClampNeg)) := hT
    have hV : (vp_in ((13 * (a2 / 4)) + (a1 / 4)) 117) := hV
    refine lv_aload_n hx hb dX7_point_60 rfl (lv_at hl 0 rfl) ?_
    refine q_getr (T := TX7) hx hb hB uw_X7 hown hK hC rfl (hL 20 (by decide) (by decide)) rfl 1 (by decide) rfl rfl (hB _ mw_3_45) dX7_point_61 ?_
    refine lv_bipush (v := 13) hx hb dX7_point_64 (by decide) ?_
    refine lv_iload_n hx hb dX7_point_66 rfl (lv_at hl 2 rfl) ?_
    refine lv_iconst (v := 4) hx hb dX7_point_67 (by decide) ?_
    refine lv_idiv hx hb dX7_point_68 (by decide) ?_
    refine lv_imul hx hb dX7_point_69 ?_
    refine lv_iload_n hx hb dX7_point_70 rfl (lv_at hl 1 rfl) ?_
    refine lv_iconst (v := 4) hx hb dX7_point_71 (by decide) ?_
    refine lv_idiv hx hb dX7_point_72 (by decide) ?_
    refine lv_iadd hx hb dX7_point_73 ?_
    have w74 : vp_in ((13 * (a2 / 4)) + (a1 / 4)) 117 := hV
    refine q_iald hx hb hK hC rfl (hL 22 (by decide) (by decide)) rfl w74 rfl dX7_point_74 ?_
    refine lv_topi (fun x3 ex3 => ?_)
    have hT : sp_X7_point M a1 a2 = sp_X7_point_n3 M a1 a2 x3 := by rw [ex3]; exact hT
    refine lv_istore_n (lv' := [(3, .int x3), (0, .ref (ad 20)), (1, .int a1), (2, .int a2)]) hx hb dX7_point_75 rfl hl (by decide) rfl (fun ls hl => ?_)
    refine lv_iload_n hx hb dX7_point_76 rfl (lv_at hl 2 rfl) ?_
    refine lv_iconst (v := 4) hx hb dX7_point_77 (by decide) ?_
    refine lv_irem hx hb dX7_point_78 (by decide) ?_
    refine lv_topi (fun x4 ex4 => ?_)
    have hT : sp_X7_point M a1 a2 = sp_X7_point_n2 M a2 x3 x4 := by rw [ex4]; exact hT
    refine lv_istore (lv' := [(4, .int x4), (3, .int x3), (0, .ref (ad 20)), (1, .int a1), (2, .int a2)]) hx hb dX7_point_79 hl (by decide) rfl (fun ls hl => ?_)
    refine lv_iload_n hx hb dX7_point_81 rfl (lv_at hl 4 rfl) ?_
    refine lv_iconst (v := 4) hx hb dX7_point_82 (by decide) ?_
    refine lv_irem hx hb dX7_point_83 (by decide) ?_
    refine lv_topi (fun x5 ex5 => ?_)
    have hT : sp_X7_point M a1 a2 = sp_X7_point_n1 M x3 x4 x5 := by rw [ex5]; exact hT
    refine lv_istore (lv' := [(5, .int x5), (4, .int x4), (3, .int x3), (0, .ref (ad 20)), (1, .int a1), (2, .int a2)]) hx hb dX7_point_84 hl (by decide) rfl (fun ls hl => ?_)
    refine lv_iload_n hx hb dX7_point_86 rfl (lv_at hl 2 rfl) ?_
    refine lv_iconst (v := 1) hx hb dX7_point_87 (by decide) ?_
    refine lv_icmp_ne (tgt := 93) hx hb dX7_point_88 (by decide) (fun c88 => ?_) (fun c88 => ?_)
    · have hT : sp_X7_point M a1 a2 = if x3 = 2 then (if x4 = 1 then (if x5 = 1 then (sp_X7_point_B115 2) else sp_X7_point_B114) else sp_X7_point_B114) else (if x3 = 3 then (if x4 ≤ 0 then sp_X7_point_B157 else (if 3 ≤ x4 then sp_X7_point_B157 else (if x5 ≤ 0 then sp_X7_point_B157 else (if 3 ≤ x5 then sp_X7_point_B157 else (if ((gI M 20 13) &&& 8) = 0 then (sp_X7_point_B158 2) else sp_X7_point_B157))))) else (if x3 = 4 then (if x5 = 0 then (sp_X7_point_B175 9) else sp_X7_point_B174) else sp_X7_point_B174)) := hT.trans (if_neg c88)
      refine lv_iload_n hx hb dX7_point_93 rfl (lv_at hl 2 rfl) ?_
      refine lv_iconst (v := 2) hx hb dX7_point_94 (by decide) ?_
      refine lv_icmp_ne (tgt := 116) hx hb dX7_point_95 (by decide) (fun c95 => ?_) (fun c95 => ?_)
      · have hT : sp_X7_point M a1 a2 = if x3 = 3 then (if x4 ≤ 0 then sp_X7_point_B157 else (if 3 ≤ x4 then sp_X7_point_B157 else (if x5 ≤ 0 then sp_X7_point_B157 else (if 3 ≤ x5 then sp_X7_point_B157 else (if ((gI M 20 13) &&& 8) = 0 then (sp_X7_point_B158 2) else sp_X7_point_B157))))) else (if x3 = 4 then (if x5 = 0 then (sp_X7_point_B175 9) else sp_X7_point_B174) else sp_X7_point_B174) := hT.trans (if_neg c95)
        refine lv_iload_n hx hb dX7_point_116 rfl (lv_at hl 2 rfl) ?_
        refine lv_iconst (v := 3) hx hb dX7_point_117 (by decide) ?_
        refine lv_icmp_ne (tgt := 159) hx hb dX7_point_118 (by decide) (fun c118 => ?_) (fun c118 => ?_)
        · have hT : sp_X7_point M a1 a2 = if x3 = 4 then (if x5 = 0 then (sp_X7_point_B175 9) else sp_X7_point_B174) else sp_X7_point_B174 := hT.trans (if_neg c118)
          refine lv_iload_n hx hb dX7_point_159 rfl (lv_at hl 2 rfl) ?_
          refine lv_iconst (v := 4) hx hb dX7_point_160 (by decide) ?_
          refine lv_icmp_ne (tgt := 174) hx hb dX7_point_161 (by decide) (fun c161 => ?_) (fun c161 => ?_)
          · have hT : sp_X7_point M a1 a2 = sp_X7_point_B174 := hT.trans (if_neg c161)
            exact J174  _ _ _  hT hC (lv_sub hl [] rfl)
          · have hT : sp_X7_point M a1 a2 = if x5 = 0 then (sp_X7_point_B175 9) else sp_X7_point_B174 := hT.trans (if_pos c161)
            refine lv_iload hx hb dX7_point_164 (lv_at hl 0 rfl) ?_
            refine lv_if_ne (tgt := 174) hx hb dX7_point_166 (by decide) (fun c166 => ?_) (fun c166 => ?_)
            · have hT : sp_X7_point M a1 a2 = sp_X7_point_B174 := hT.trans (if_neg c166)
              exact J174  _ _ _  hT hC (lv_sub hl [] rfl)
            · have hT : sp_X7_point M a1 a2 = sp_X7_point_B175 9 := hT.trans (if_pos c166)
              refine lv_bipush (v := 9) hx hb dX7_point_169 (by decide) ?_
              refine lv_goto (tgt := 175) hx hb dX7_point_171 (by decide) ?_
              exact J175 9 _ _ _  hT hC (lv_sub hl [] rfl)
        · have hT : sp_X7_point M a1 a2 = if x4 ≤ 0 then sp_X7_point_B157 else (if 3 ≤ x4 then sp_X7_point_B157 else (if x5 ≤ 0 then sp_X7_point_B157 else (if 3 ≤ x5 then sp_X7_point_B157 else (if ((gI M 20 13) &&& 8) = 0 then (sp_X7_point_B158 2) else sp_X7_point_B157)))) := hT.trans (if_pos c118)
          refine lv_iload hx hb dX7_point_121 (lv_at hl 1 rfl) ?_
          refine lv_if_le (tgt := 157) hx hb dX7_point_123 (by decide) (fun c123 => ?_) (fun c123 => ?_)
          · have hT : sp_X7_point M a1 a2 = sp_X7_point_B157 := hT.trans (if_pos c123)
            exact J157  _ _ _  hT hC (lv_sub hl [] rfl)
          · have hT : sp_X7_point M a1 a2 = if 3 ≤ x4 then sp_X7_point_B157 else (if x5 ≤ 0 then sp_X7_point_B157 else (if 3 ≤ x5 then sp_X7_point_B157 else (if ((gI M 20 13) &&& 8) = 0 then (sp_X7_point_B158 2) else sp_X7_point_B157))) := hT.trans (if_neg c123)
            refine lv_iload hx hb dX7_point_126 (lv_at hl 1 rfl) ?_
            refine lv_iconst (v := 3) hx hb dX7_point_128 (by decide) ?_
            refine lv_icmp_ge (tgt := 157) hx hb dX7_point_129 (by decide) (fun c129 => ?_) (fun c129 => ?_)
            · have hT : sp_X7_point M a1 a2 = sp_X7_point_B157 := hT.trans (if_pos c129)
              exact J157  _ _ _  hT hC (lv_sub hl [] rfl)
            · have hT : sp_X7_point M a1 a2 = if x5 ≤ 0 then sp_X7_point_B157 else (if 3 ≤ x5 then sp_X7_point_B157 else (if ((gI M 20 13) &&& 8) = 0 then (sp_X7_point_B158 2) else sp_X7_point_B157)) := hT.trans (if_neg c129)
              refine lv_iload hx hb dX7_point_132 (lv_at hl 0 rfl) ?_
              refine lv_if_le (tgt := 157) hx hb dX7_point_134 (by decide) (fun c134 => ?_) (fun c134 => ?_)
              · have hT : sp_X7_point M a1 a2 = sp_X7_point_B157 := hT.trans (if_pos c134)
                exact J157  _ _ _  hT hC (lv_sub hl [] rfl)
              · have hT : sp_X7_point M a1 a2 = if 3 ≤ x5 then sp_X7_point_B157 else (if ((gI M 20 13) &&& 8) = 0 then (sp_X7_point_B158 2) else sp_X7_point_B157) := hT.trans (if_neg c134)
                refine lv_iload hx hb dX7_point_137 (lv_at hl 0 rfl) ?_
                refine lv_iconst (v := 3) hx hb dX7_point_139 (by decide) ?_
                refine lv_icmp_ge (tgt := 157) hx hb dX7_point_140 (by decide) (fun c140 => ?_) (fun c140 => ?_)
                · have hT : sp_X7_point M a1 a2 = sp_X7_point_B157 := hT.trans (if_pos c140)
                  exact J157  _ _ _  hT hC (lv_sub hl [] rfl)
                · have hT : sp_X7_point M a1 a2 = if ((gI M 20 13) &&& 8) = 0 then (sp_X7_point_B158 2) else sp_X7_point_B157 := hT.trans (if_neg c140)
                  refine lv_aload_n hx hb dX7_point_143 rfl (lv_at hl 3 rfl) ?_
                  refine q_geti (T := TX7) hx hb hB uw_X7 hown hK hC rfl (hL 20 (by decide) (by decide)) rfl 13 (by decide) rfl (hB _ mw_3_57) dX7_point_144 ?_
                  refine lv_bipush (v := 8) hx hb dX7_point_147 (by decide) ?_
                  refine lv_iand hx hb dX7_point_149 ?_
                  refine lv_if_ne (tgt := 157) hx hb dX7_point_150 (by decide) (fun c150 => ?_) (fun c150 => ?_)
                  · have hT : sp_X7_point M a1 a2 = sp_X7_point_B157 := hT.trans (if_neg c150)
                    exact J157  _ _ _  hT hC (lv_sub hl [] rfl)
                  · have hT : sp_X7_point M a1 a2 = sp_X7_point_B158 2 := hT.trans (if_pos c150)
                    refine lv_iconst (v := 2) hx hb dX7_point_153 (by decide) ?_
                    refine lv_goto (tgt := 158) hx hb dX7_point_154 (by decide) ?_
                    exact J158 2 _ _ _  hT hC (lv_sub hl [] rfl)
      · have hT : sp_X7_point M a1 a2 = if x4 = 1 then (if x5 = 1 then (sp_X7_point_B115 2) else sp_X7_point_B114) else sp_X7_point_B114 := hT.trans (if_pos c95)
        refine lv_iload hx hb dX7_point_98 (lv_at hl 1 rfl) ?_
        refine lv_iconst (v := 1) hx hb dX7_point_100 (by decide) ?_
        refine lv_icmp_ne (tgt := 114) hx hb dX7_point_101 (by decide) (fun c101 => ?_) (fun c101 => ?_)
        · have hT : sp_X7_point M a1 a2 = sp_X7_point_B114 := hT.trans (if_neg c101)
          exact J114  _ _ _  hT hC (lv_sub hl [] rfl)
        · have hT : sp_X7_point M a1 a2 = if x5 = 1 then (sp_X7_point_B115 2) else sp_X7_point_B114 := hT.trans (if_pos c101)
          refine lv_iload hx hb dX7_point_104 (lv_at hl 0 rfl) ?_
          refine lv_iconst (v := 1) hx hb dX7_point_106 (by decide) ?_
          refine lv_icmp_ne (tgt := 114) hx hb dX7_point_107 (by decide) (fun c107 => ?_) (fun c107 => ?_)
          · have hT : sp_X7_point M a1 a2 = sp_X7_point_B114 := hT.trans (if_neg c107)
            exact J114  _ _ _  hT hC (lv_sub hl [] rfl)
          · have hT : sp_X7_point M a1 a2 = sp_X7_point_B115 2 := hT.trans (if_pos c107)
            refine lv_iconst (v := 2) hx hb dX7_point_110 (by decide) ?_
            refine lv_goto (tgt := 115) hx hb dX7_point_111 (by decide) ?_
            exact J115 2 _ _ _  hT hC (lv_sub hl [] rfl)
    · have hT : sp_X7_point M a1 a2 = 1 := hT.trans (if_pos c88)
      refine lv_iconst (v := 1) hx hb dX7_point_91 (by decide) ?_
      exact q_reti hx hb hr hlocks hC ⟨hT.symm, rfl⟩ dX7_point_92
  have J24 : ∀ (n : Nat) (x1 : Int32) (H : Heap) (locs : List Loc) (ls : Array Slot) (hT : sp_X7_point M a1 a2 = sp_X7_point_B24 n M a1 a2 x1) (hV : vc_X7_point_B24 n M a1 a2 x1) (hC : Cx D cy ad R0 L (fA ad L s.heap.size) s M H locs) (hl : lv_has ls 6 [(0, .ref (ad 20)), (1, .int a1), (2, .int a2), (3, .int x1)]), W p l e ({ frames := 2, cells := 0, slots := 0, locals := 52 }) s m ([.ref (ad 20), .int a1, .int a2] : List Value).toArray below meth c H locs 0 0 (MQ below (va_Qi (fun r N => r = sp_X7_point M a1 a2 ∧ N = M) (OW D cy ad L s.heap.size) (fA ad L s.heap.size)) ([.ref (ad 20), .int a1, .int a2] : List Value).toArray s 0 0 (fA ad L s.heap.size)) (F0 m 24 ls []) := by
    intro n
    induction n with
    | zero => intro x1 H locs ls  hT hV; exact hV.elim
    | succ n ih =>
      intro x1 H locs ls  hT hV hC hl
      have hT : sp_X7_point M a1 a2 = if 5 ≤ x1 then (sp_X7_point_B60 M a1 a2) else (if (gI M 20 3) = 0 then (sp_X7_point_B60 M a1 a2) else (if (sp_X7_sprite M x1 a1 a2) ≤ 0 then (sp_X7_point_n4 (sp_X7_point_B24 n) M a1 a2 (x1 + 1)) else (sp_X7_sprite M x1 a1 a2))) := hT
      have hV : if 5 ≤ x1 then vc_X7_point_B60 M a1 a2 else (if (gI M 20 3) = 0 then vc_X7_point_B60 M a1 a2 else (vc_X7_sprite M x1 a1 a2 ∧ (if (sp_X7_sprite M x1 a1 a2) ≤ 0 then (vc_X7_point_n4 (vc_X7_point_B24 n) M a1 a2 (x1 + 1)) else vc_X7_sprite M x1 a1 a2))) := hV
      refine lv_iload_n hx hb dX7_point_24 rfl (lv_at hl 3 rfl) ?_
      refine lv_iconst (v := 5) hx hb dX7_point_25 (by decide) ?_
      refine lv_icmp_ge (tgt := 60) hx hb dX7_point_26 (by decide) (fun c26 => ?_) (fun c26 => ?_)
      · have hT : sp_X7_point M a1 a2 = sp_X7_point_B60 M a1 a2 := hT.trans (if_pos c26)
        have hV : vc_X7_point_B60 M a1 a2 := iteT hV c26
        exact J60  _ _ _  hT hV hC (lv_sub hl [0, 1, 2] rfl)
      · have hT : sp_X7_point M a1 a2 = if (gI M 20 3) = 0 then (sp_X7_point_B60 M a1 a2) else (if (sp_X7_sprite M x1 a1 a2) ≤ 0 then (sp_X7_point_n4 (sp_X7_point_B24 n) M a1 a2 (x1 + 1)) else (sp_X7_sprite M x1 a1 a2)) := hT.trans (if_neg c26)
        have hV : if (gI M 20 3) = 0 then vc_X7_point_B60 M a1 a2 else (vc_X7_sprite M x1 a1 a2 ∧ (if (sp_X7_sprite M x1 a1 a2) ≤ 0 then (vc_X7_point_n4 (vc_X7_point_B24 n) M a1 a2 (x1 + 1)) else vc_X7_sprite M x1 a1 a2)) := iteF hV c26
        refine lv_aload_n hx hb dX7_point_29 rfl (lv_at hl 0 rfl) ?_
        refine q_geti (T := TX7) hx hb hB uw_X7 hown hK hC rfl (hL 20 (by decide) (by decide)) rfl 3 (by decide) rfl (hB _ mw_3_47) dX7_point_30 ?_
        refine lv_if_eq (tgt := 60) hx hb dX7_point_33 (by decide) (fun c33 => ?_) (fun c33 => ?_)
        · have hT : sp_X7_point M a1 a2 = sp_X7_point_B60 M a1 a2 := hT.trans (if_pos c33)
          have hV : vc_X7_point_B60 M a1 a2 := iteT hV c33
          exact J60  _ _ _  hT hV hC (lv_sub hl [0, 1, 2] rfl)
        · have hT : sp_X7_point M a1 a2 = if (sp_X7_sprite M x1 a1 a2) ≤ 0 then (sp_X7_point_n4 (sp_X7_point_B24 n) M a1 a2 (x1 + 1)) else (sp_X7_sprite M x1 a1 a2) := hT.trans (if_neg c33)
          have hV : vc_X7_sprite M x1 a1 a2 ∧ (if (sp_X7_sprite M x1 a1 a2) ≤ 0 then (vc_X7_point_n4 (vc_X7_point_B24 n) M a1 a2 (x1 + 1)) else vc_X7_sprite M x1 a1 a2) := iteF hV c33
          refine lv_aload_n hx hb dX7_point_36 rfl (lv_at hl 0 rfl) ?_
          refine lv_iload_n hx hb dX7_point_37 rfl (lv_at hl 3 rfl) ?_
          refine lv_iload_n hx hb dX7_point_38 rfl (lv_at hl 1 rfl) ?_
          refine lv_iload_n hx hb dX7_point_39 rfl (lv_at hl 2 rfl) ?_
          obtain ⟨v40, hV⟩ : vc_X7_sprite M x1 a1 a2 ∧ (if (sp_X7_sprite M x1 a1 a2) ≤ 0 then (vc_X7_point_n4 (vc_X7_point_B24 n) M a1 a2 (x1 + 1)) else vc_X7_sprite M x1 a1 a2) := hV
          refine q_Ci (q_V (own := "MazeBoardModel") (y := yX7_sprite) (As := [.int x1, .int a1, .int a2]) (rest := []) ⟨hx, hb, hml, hown, hB⟩ hK hE hC (c_X7_sprite l D cy ad L H.size (hL.sub (by decide) (by decide)) M x1 a1 a2 v40) rfl (hL 20 (by decide) (by decide)) rfl mw_4_51 mw_4_53 mw_0_48 mw_1_7 mw_4_54 rfl yd_X7_sprite ⟨rfl, rfl⟩ ⟨Nat.le_of_ble_eq_true rfl, Nat.le_of_ble_eq_true rfl⟩ rfl hl.1 rfl (Nat.le_of_ble_eq_true rfl) dX7_point_40 ⟨Nat.le_refl _, Nat.le_refl _⟩) hC (fun r N_ H locs hp hC => ?_)
          obtain ⟨hr_, hM_⟩ := hp
          subst hr_
          rw [hM_] at hC
          refine lv_if_le (tgt := 54) hx hb dX7_point_43 (by decide) (fun c43 => ?_) (fun c43 => ?_)
          · have hT : sp_X7_point M a1 a2 = sp_X7_point_n4 (sp_X7_point_B24 n) M a1 a2 (x1 + 1) := hT.trans (if_pos c43)
            have hV : vc_X7_point_n4 (vc_X7_point_B24 n) M a1 a2 (x1 + 1) := iteT hV c43
            obtain ⟨x2, ex2⟩ : ∃ z : Int32, z = x1 + 1 := ⟨_, rfl⟩
            have hT : sp_X7_point M a1 a2 = sp_X7_point_n4 (sp_X7_point_B24 n) M a1 a2 x2 := by rw [ex2]; exact hT
            have hV : vc_X7_point_n4 (vc_X7_point_B24 n) M a1 a2 x2 := by rw [ex2]; exact hV
            refine lv_iinc (v := x2) (lv' := [(3, .int x2), (0, .ref (ad 20)), (1, .int a1), (2, .int a2)]) hx hb dX7_point_54 hl (k := 3) rfl (by rw [ex2]; rfl) (by decide) rfl (fun ls hl => ?_)
            refine lv_goto (tgt := 24) hx hb dX7_point_57 (by decide) ?_
            exact ih x2 _ _ _  hT hV hC (lv_sub hl [1, 2, 3, 0] rfl)
          · have hT : sp_X7_point M a1 a2 = sp_X7_sprite M x1 a1 a2 := hT.trans (if_neg c43)
            have hV : vc_X7_sprite M x1 a1 a2 := iteF hV c43
            refine lv_aload_n hx hb dX7_point_46 rfl (lv_at hl 0 rfl) ?_
            refine lv_iload_n hx hb dX7_point_47 rfl (lv_at hl 3 rfl) ?_
            refine lv_iload_n hx hb dX7_point_48 rfl (lv_at hl 1 rfl) ?_
            refine lv_iload_n hx hb dX7_point_49 rfl (lv_at hl 2 rfl) ?_
            have v50 : vc_X7_sprite M x1 a1 a2 := hV
            refine q_Ci (q_V (own := "MazeBoardModel") (y := yX7_sprite) (As := [.int x1, .int a1, .int a2]) (rest := []) ⟨hx, hb, hml, hown, hB⟩ hK hE hC (c_X7_sprite l D cy ad L H.size (hL.sub (by decide) (by decide)) M x1 a1 a2 v50) rfl (hL 20 (by decide) (by decide)) rfl mw_4_51 mw_4_53 mw_0_48 mw_1_7 mw_4_54 rfl yd_X7_sprite ⟨rfl, rfl⟩ ⟨Nat.le_of_ble_eq_true rfl, Nat.le_of_ble_eq_true rfl⟩ rfl hl.1 rfl (Nat.le_of_ble_eq_true rfl) dX7_point_50 ⟨Nat.le_refl _, Nat.le_refl _⟩) hC (fun r N_ H locs hp hC => ?_)
            obtain ⟨hr_, hM_⟩ := hp
            subst hr_
            rw [hM_] at hC
            exact q_reti hx hb hr hlocks hC ⟨hT.symm, rfl⟩ dX7_point_53
  have J20 : ∀  (H : Heap) (locs : List Loc) (ls : Array Slot) (hT : sp_X7_point M a1 a2 = sp_X7_point_B20 ) (hC : Cx D cy ad R0 L (fA ad L s.heap.size) s M H locs) (hl : lv_has ls 6 []), W p l e ({ frames := 2, cells := 0, slots := 0, locals := 52 }) s m ([.ref (ad 20), .int a1, .int a2] : List Value).toArray below meth c H locs 0 0 (MQ below (va_Qi (fun r N => r = sp_X7_point M a1 a2 ∧ N = M) (OW D cy ad L s.heap.size) (fA ad L s.heap.size)) ([.ref (ad 20), .int a1, .int a2] : List Value).toArray s 0 0 (fA ad L s.heap.size)) (F0 m 20 ls []) := by
    intro  H locs ls  hT hC hl
    have hT : sp_X7_point M a1 a2 = (-1) := hT
    refine lv_iconst (v := (-1)) hx hb dX7_point_20 (by decide) ?_
    exact q_reti hx hb hr hlocks hC ⟨hT.symm, rfl⟩ dX7_point_21
  have hT : sp_X7_point M a1 a2 = if a1 < 0 then sp_X7_point_B20 else (if 51 < a1 then sp_X7_point_B20 else (if a2 < 0 then sp_X7_point_B20 else (if a2 ≤ 35 then (sp_X7_point_B24 6 M a1 a2 0) else sp_X7_point_B20))) := rfl
  have hV : if a1 < 0 then True else (if 51 < a1 then True else (if a2 < 0 then True else (if a2 ≤ 35 then vc_X7_point_B24 6 M a1 a2 0 else True))) := hV
  refine lv_iload_n hx hb dX7_point_0 rfl (lv_at hl 1 rfl) ?_
  refine lv_if_lt (tgt := 20) hx hb dX7_point_1 (by decide) (fun c1 => ?_) (fun c1 => ?_)
  · have hT : sp_X7_point M a1 a2 = sp_X7_point_B20 := hT.trans (if_pos c1)
    exact J20  _ _ _  hT hC (lv_sub hl [] rfl)
  · have hT : sp_X7_point M a1 a2 = if 51 < a1 then sp_X7_point_B20 else (if a2 < 0 then sp_X7_point_B20 else (if a2 ≤ 35 then (sp_X7_point_B24 6 M a1 a2 0) else sp_X7_point_B20)) := hT.trans (if_neg c1)
    have hV : if 51 < a1 then True else (if a2 < 0 then True else (if a2 ≤ 35 then vc_X7_point_B24 6 M a1 a2 0 else True)) := iteF hV c1
    refine lv_iload_n hx hb dX7_point_4 rfl (lv_at hl 1 rfl) ?_
    refine lv_bipush (v := 51) hx hb dX7_point_5 (by decide) ?_
    refine lv_icmp_gt (tgt := 20) hx hb dX7_point_7 (by decide) (fun c7 => ?_) (fun c7 => ?_)
    · have hT : sp_X7_point M a1 a2 = sp_X7_point_B20 := hT.trans (if_pos c7)
      exact J20  _ _ _  hT hC (lv_sub hl [] rfl)
    · have hT : sp_X7_point M a1 a2 = if a2 < 0 then sp_X7_point_B20 else (if a2 ≤ 35 then (sp_X7_point_B24 6 M a1 a2 0) else sp_X7_point_B20) := hT.trans (if_neg c7)
      have hV : if a2 < 0 then True else (if a2 ≤ 35 then vc_X7_point_B24 6 M a1 a2 0 else True) := iteF hV c7
      refine lv_iload_n hx hb dX7_point_10 rfl (lv_at hl 2 rfl) ?_
      refine lv_if_lt (tgt := 20) hx hb dX7_point_11 (by decide) (fun c11 => ?_) (fun c11 => ?_)
      · have hT : sp_X7_point M a1 a2 = sp_X7_point_B20 := hT.trans (if_pos c11)
        exact J20  _ _ _  hT hC (lv_sub hl [] rfl)
      · have hT : sp_X7_point M a1 a2 = if a2 ≤ 35 then (sp_X7_point_B24 6 M a1 a2 0) else sp_X7_point_B20 := hT.trans (if_neg c11)
        have hV : if a2 ≤ 35 then vc_X7_point_B24 6 M a1 a2 0 else True := iteF hV c11
        refine lv_iload_n hx hb dX7_point_14 rfl (lv_at hl 2 rfl) ?_
        refine lv_bipush (v := 35) hx hb dX7_point_15 (by decide) ?_
        refine lv_icmp_le (tgt := 22) hx hb dX7_point_17 (by decide) (fun c17 => ?_) (fun c17 => ?_)
        · have hT : sp_X7_point M a1 a2 = sp_X7_point_B24 6 M a1 a2 0 := hT.trans (if_pos c17)
          have hV : vc_X7_point_B24 6 M a1 a2 0 := iteT hV c17
          refine lv_iconst (v := 0) hx hb dX7_point_22 (by decide) ?_
          refine lv_istore_n (lv' := [(3, .int 0), (0, .ref (ad 20)), (1, .int a1), (2, .int a2)]) hx hb dX7_point_23 rfl hl (by decide) rfl (fun ls hl => ?_)
          exact J24 6 0 _ _ _  hT hV hC (lv_sub hl [1, 2, 3, 0] rfl)
        · have hT : sp_X7_point M a1 a2 = sp_X7_point_B20 := hT.trans (if_neg c17)
          exact J20  _ _ _  hT hC (lv_sub hl [] rfl)
set_option maxHeartbeats 4000000 in
set_option maxRecDepth 100000 in
theorem c_X7_volume (l : Launch) (D : va_G) (cy ad : Nat → Nat) (L : List Nat) (sz : Nat) (hL : lr 20 34 L) (M : Mem) (a1 : Int32) (hV : vc_X7_volume M a1) : Met l yX7_volume (Cond.code yX7_volume cX7_volume 2 (some .float) :: BG) ({ frames := 0, cells := 0, slots := 0, locals := 0 }) (va_Pc [.ref (ad 20), .int a1] (PW D cy ad L M sz)) (va_Qf (fun r N => r = sp_X7_volume M a1 ∧ N = M) (OW D cy ad L sz) (fA ad L sz)) 0 0 (fA ad L sz) := by
  refine q_start (by decide) (Nat.le_of_ble_eq_true rfl) (fun p e s m below meth c H locs ls hsz hx hb hr hlocks hml hown hB hK hE hC hl => ?_)
  subst hsz
  have hown : s.vm.findClass "MazeBoardModel" = some m.cls := hown
  have hl : lv_has ls 2 [(0, .ref (ad 20)), (1, .int a1)] := hl
  have J19 : ∀ (f1 : UInt32) (H : Heap) (locs : List Loc) (ls : Array Slot) (hT : sp_X7_volume M a1 = sp_X7_volume_B19 f1) (hC : Cx D cy ad R0 L (fA ad L s.heap.size) s M H locs) (hl : lv_has ls 2 []), W p l e ({ frames := 0, cells := 0, slots := 0, locals := 0 }) s m ([.ref (ad 20), .int a1] : List Value).toArray below meth c H locs 0 0 (MQ below (va_Qf (fun r N => r = sp_X7_volume M a1 ∧ N = M) (OW D cy ad L s.heap.size) (fA ad L s.heap.size)) ([.ref (ad 20), .int a1] : List Value).toArray s 0 0 (fA ad L s.heap.size)) (F0 m 19 ls [.float f1]) := by
    intro f1 H locs ls  hT hC hl
    have hT : sp_X7_volume M a1 = f1 := hT
    exact q_retf hx hb hr hlocks hC ⟨hT.symm, rfl⟩ dX7_volume_19
  have J9 : ∀  (H : Heap) (locs : List Loc) (ls : Array Slot) (hT : sp_X7_volume M a1 = sp_X7_volume_B9 ) (hC : Cx D cy ad R0 L (fA ad L s.heap.size) s M H locs) (hl : lv_has ls 2 []), W p l e ({ frames := 0, cells := 0, slots := 0, locals := 0 }) s m ([.ref (ad 20), .int a1] : List Value).toArray below meth c H locs 0 0 (MQ below (va_Qf (fun r N => r = sp_X7_volume M a1 ∧ N = M) (OW D cy ad L s.heap.size) (fA ad L s.heap.size)) ([.ref (ad 20), .int a1] : List Value).toArray s 0 0 (fA ad L s.heap.size)) (F0 m 9 ls []) := by
    intro  H locs ls  hT hC hl
    have hT : sp_X7_volume M a1 = sp_X7_volume_B19 FP.fconst0 := hT
    refine lv_fconst0 hx hb dX7_volume_9 ?_
    refine lv_goto (tgt := 19) hx hb dX7_volume_10 (by decide) ?_
    exact J19 FP.fconst0 _ _ _  hT hC (lv_sub hl [] rfl)
  have hT : sp_X7_volume M a1 = if a1 < 0 then sp_X7_volume_B9 else (if a1 ≤ 2 then (sp_X7_volume_B19 (gF M 34 a1.toNatClampNeg)) else sp_X7_volume_B9) := rfl
  have hV : if a1 < 0 then True else (if a1 ≤ 2 then vp_in a1 3 else True) := hV
  refine lv_iload_n hx hb dX7_volume_0 rfl (lv_at hl 1 rfl) ?_
  refine lv_if_lt (tgt := 9) hx hb dX7_volume_1 (by decide) (fun c1 => ?_) (fun c1 => ?_)
  · have hT : sp_X7_volume M a1 = sp_X7_volume_B9 := hT.trans (if_pos c1)
    exact J9  _ _ _  hT hC (lv_sub hl [] rfl)
  · have hT : sp_X7_volume M a1 = if a1 ≤ 2 then (sp_X7_volume_B19 (gF M 34 a1.toNatClampNeg)) else sp_X7_volume_B9 := hT.trans (if_neg c1)
    have hV : if a1 ≤ 2 then vp_in a1 3 else True := iteF hV c1
    refine lv_iload_n hx hb dX7_volume_4 rfl (lv_at hl 1 rfl) ?_
    refine lv_iconst (v := 2) hx hb dX7_volume_5 (by decide) ?_
    refine lv_icmp_le (tgt := 13) hx hb dX7_volume_6 (by decide) (fun c6 => ?_) (fun c6 => ?_)
    · have hT : sp_X7_volume M a1 = sp_X7_volume_B19 (gF M 34 a1.toNatClampNeg) := hT.trans (if_pos c6)
      have hV : vp_in a1 3 := iteT hV c6
      refine lv_aload_n hx hb dX7_volume_13 rfl (lv_at hl 0 rfl) ?_
      refine q_getr (T := TX7) hx hb hB uw_X7 hown hK hC rfl (hL 20 (by decide) (by decide)) rfl 27 (by decide) rfl rfl (hB _ mw_3_71) dX7_volume_14 ?_
      refine lv_iload_n hx hb dX7_volume_17 rfl (lv_at hl 1 rfl) ?_
      have w18 : vp_in a1 3 := hV
      refine q_fald hx hb hK hC rfl (hL 34 (by decide) (by decide)) rfl w18 rfl dX7_volume_18 ?_
      exact J19 (gF M 34 a1.toNatClampNeg) _ _ _  hT hC (lv_sub hl [] rfl)
    · have hT : sp_X7_volume M a1 = sp_X7_volume_B9 := hT.trans (if_neg c6)
      exact J9  _ _ _  hT hC (lv_sub hl [] rfl)
set_option maxHeartbeats 4000000 in
set_option maxRecDepth 100000 in
theorem c_X7_sound (l : Launch) (D : va_G) (cy ad : Nat → Nat) (L : List Nat) (sz : Nat) (hL : lr 20 34 L) (M : Mem)  (hV : vc_X7_sound M ) : Met l yX7_sound (Cond.code yX7_sound cX7_sound 3 (some .float) :: BG) ({ frames := 0, cells := 0, slots := 0, locals := 0 }) (va_Pc [.ref (ad 20)] (PW D cy ad L M sz)) (va_Qf (fun r N => r = sp_X7_sound M ∧ N = M) (OW D cy ad L sz) (fA ad L sz)) 0 0 (fA ad L sz) := by
  refine q_start (by decide) (Nat.le_of_ble_eq_true rfl) (fun p e s m below meth c H locs ls hsz hx hb hr hlocks hml hown hB hK hE hC hl => ?_)
  subst hsz
  have hown : s.vm.findClass "MazeBoardModel" = some m.cls := hown
  have hl : lv_has ls 3 [(0, .ref (ad 20))] := hl
  have J4 : ∀ (n : Nat) (f2 : UInt32) (x3 : Int32) (H : Heap) (locs : List Loc) (ls : Array Slot) (hT : sp_X7_sound M = sp_X7_sound_B4 n M f2 x3) (hV : vc_X7_sound_B4 n M f2 x3) (hC : Cx D cy ad R0 L (fA ad L s.heap.size) s M H locs) (hl : lv_has ls 3 [(0, .ref (ad 20)), (1, .float f2), (2, .int x3)]), W p l e ({ frames := 0, cells := 0, slots := 0, locals := 0 }) s m ([.ref (ad 20)] : List Value).toArray below meth c H locs 0 0 (MQ below (va_Qf (fun r N => r = sp_X7_sound M ∧ N = M) (OW D cy ad L s.heap.size) (fA ad L s.heap.size)) ([.ref (ad 20)] : List Value).toArray s 0 0 (fA ad L s.heap.size)) (F0 m 4 ls []) := by
    intro n
    induction n with
    | zero => intro f2 x3 H locs ls  hT hV; exact hV.elim
    | succ n ih =>
      intro f2 x3 H locs ls  hT hV hC hl
      have hT : sp_X7_sound M = if 3 ≤ x3 then f2 else (sp_X7_sound_n2 (sp_X7_sound_B4 n) M x3 (FP.fadd f2 (FP.fmul (FP.fsub (FP.i2f (((gI M 32 x3.toNatClampNeg) >>> (8 &&& 31)) &&& 15)) 1089470464) (gF M 34 x3.toNatClampNeg)))) := hT
      have hV : if 3 ≤ x3 then True else (vp_in x3 3 ∧ ((vf_n32 (FP.fsub (FP.i2f (((gI M 32 x3.toNatClampNeg) >>> (8 &&& 31)) &&& 15)) 1089470464)) ∧ (vp_in x3 3 ∧ ((vf_n32 (FP.fmul (FP.fsub (FP.i2f (((gI M 32 x3.toNatClampNeg) >>> (8 &&& 31)) &&& 15)) 1089470464) (gF M 34 x3.toNatClampNeg))) ∧ ((vf_n32 (FP.fadd f2 (FP.fmul (FP.fsub (FP.i2f (((gI M 32 x3.toNatClampNeg) >>> (8 &&& 31)) &&& 15)) 1089470464) (gF M 34 x3.toNatClampNeg)))) ∧ (vc_X7_sound_n2 (vc_X7_sound_B4 n) M x3 (FP.fadd f2 (FP.fmul (FP.fsub (FP.i2f (((gI M 32 x3.toNatClampNeg) >>> (8 &&& 31)) &&& 15)) 1089470464) (gF M 34 x3.toNatClampNeg))))))))) := hV
      refine lv_iload_n hx hb dX7_sound_4 rfl (lv_at hl 2 rfl) ?_
      refine lv_iconst (v := 3) hx hb dX7_sound_5 (by decide) ?_
      refine lv_icmp_ge (tgt := 41) hx hb dX7_sound_6 (by decide) (fun c6 => ?_) (fun c6 => ?_)
      · have hT : sp_X7_sound M = f2 := hT.trans (if_pos c6)
        refine lv_fload_n hx hb dX7_sound_41 rfl (lv_at hl 1 rfl) ?_
        exact q_retf hx hb hr hlocks hC ⟨hT.symm, rfl⟩ dX7_sound_42
      · have hT : sp_X7_sound M = sp_X7_sound_n2 (sp_X7_sound_B4 n) M x3 (FP.fadd f2 (FP.fmul (FP.fsub (FP.i2f (((gI M 32 x3.toNatClampNeg) >>> (8 &&& 31)) &&& 15)) 1089470464) (gF M 34 x3.toNatClampNeg))) := hT.trans (if_neg c6)
        have hV : vp_in x3 3 ∧ ((vf_n32 (FP.fsub (FP.i2f (((gI M 32 x3.toNatClampNeg) >>> (8 &&& 31)) &&& 15)) 1089470464)) ∧ (vp_in x3 3 ∧ ((vf_n32 (FP.fmul (FP.fsub (FP.i2f (((gI M 32 x3.toNatClampNeg) >>> (8 &&& 31)) &&& 15)) 1089470464) (gF M 34 x3.toNatClampNeg))) ∧ ((vf_n32 (FP.fadd f2 (FP.fmul (FP.fsub (FP.i2f (((gI M 32 x3.toNatClampNeg) >>> (8 &&& 31)) &&& 15)) 1089470464) (gF M 34 x3.toNatClampNeg)))) ∧ (vc_X7_sound_n2 (vc_X7_sound_B4 n) M x3 (FP.fadd f2 (FP.fmul (FP.fsub (FP.i2f (((gI M 32 x3.toNatClampNeg) >>> (8 &&& 31)) &&& 15)) 1089470464) (gF M 34 x3.toNatClampNeg)))))))) := iteF hV c6
        refine lv_fload_n hx hb dX7_sound_9 rfl (lv_at hl 1 rfl) ?_
        refine lv_aload_n hx hb dX7_sound_10 rfl (lv_at hl 0 rfl) ?_
        refine q_getr (T := TX7) hx hb hB uw_X7 hown hK hC rfl (hL 20 (by decide) (by decide)) rfl 25 (by decide) rfl rfl (hB _ mw_3_69) dX7_sound_11 ?_
        refine lv_iload_n hx hb dX7_sound_14 rfl (lv_at hl 2 rfl) ?_
        obtain ⟨w15, hV⟩ : vp_in x3 3 ∧ ((vf_n32 (FP.fsub (FP.i2f (((gI M 32 x3.toNatClampNeg) >>> (8 &&& 31)) &&& 15)) 1089470464)) ∧ (vp_in x3 3 ∧ ((vf_n32 (FP.fmul (FP.fsub (FP.i2f (((gI M 32 x3.toNatClampNeg) >>> (8 &&& 31)) &&& 15)) 1089470464) (gF M 34 x3.toNatClampNeg))) ∧ ((vf_n32 (FP.fadd f2 (FP.fmul (FP.fsub (FP.i2f (((gI M 32 x3.toNatClampNeg) >>> (8 &&& 31)) &&& 15)) 1089470464) (gF M 34 x3.toNatClampNeg)))) ∧ (vc_X7_sound_n2 (vc_X7_sound_B4 n) M x3 (FP.fadd f2 (FP.fmul (FP.fsub (FP.i2f (((gI M 32 x3.toNatClampNeg) >>> (8 &&& 31)) &&& 15)) 1089470464) (gF M 34 x3.toNatClampNeg)))))))) := hV
        refine q_iald hx hb hK hC rfl (hL 32 (by decide) (by decide)) rfl w15 rfl dX7_sound_15 ?_
        refine lv_bipush (v := 8) hx hb dX7_sound_16 (by decide) ?_
        refine lv_ishr hx hb dX7_sound_18 ?_
        refine lv_bipush (v := 15) hx hb dX7_sound_19 (by decide) ?_
        refine lv_iand hx hb dX7_sound_21 ?_
        refine lv_i2f hx hb dX7_sound_22 ?_
        refine lv_ldcf (v := 1089470464) hx hb hown (hB _ mw_4_64) dX7_sound_23 ?_
        obtain ⟨w25, hV⟩ : (vf_n32 (FP.fsub (FP.i2f (((gI M 32 x3.toNatClampNeg) >>> (8 &&& 31)) &&& 15)) 1089470464)) ∧ (vp_in x3 3 ∧ ((vf_n32 (FP.fmul (FP.fsub (FP.i2f (((gI M 32 x3.toNatClampNeg) >>> (8 &&& 31)) &&& 15)) 1089470464) (gF M 34 x3.toNatClampNeg))) ∧ ((vf_n32 (FP.fadd f2 (FP.fmul (FP.fsub (FP.i2f (((gI M 32 x3.toNatClampNeg) >>> (8 &&& 31)) &&& 15)) 1089470464) (gF M 34 x3.toNatClampNeg)))) ∧ (vc_X7_sound_n2 (vc_X7_sound_B4 n) M x3 (FP.fadd f2 (FP.fmul (FP.fsub (FP.i2f (((gI M 32 x3.toNatClampNeg) >>> (8 &&& 31)) &&& 15)) 1089470464) (gF M 34 x3.toNatClampNeg))))))) := hV
        refine lv_fsub hx hb dX7_sound_25 w25 ?_
        refine lv_aload_n hx hb dX7_sound_26 rfl (lv_at hl 0 rfl) ?_
        refine q_getr (T := TX7) hx hb hB uw_X7 hown hK hC rfl (hL 20 (by decide) (by decide)) rfl 27 (by decide) rfl rfl (hB _ mw_3_71) dX7_sound_27 ?_
        refine lv_iload_n hx hb dX7_sound_30 rfl (lv_at hl 2 rfl) ?_
        obtain ⟨w31, hV⟩ : vp_in x3 3 ∧ ((vf_n32 (FP.fmul (FP.fsub (FP.i2f (((gI M 32 x3.toNatClampNeg) >>> (8 &&& 31)) &&& 15)) 1089470464) (gF M 34 x3.toNatClampNeg))) ∧ ((vf_n32 (FP.fadd f2 (FP.fmul (FP.fsub (FP.i2f (((gI M 32 x3.toNatClampNeg) >>> (8 &&& 31)) &&& 15)) 1089470464) (gF M 34 x3.toNatClampNeg)))) ∧ (vc_X7_sound_n2 (vc_X7_sound_B4 n) M x3 (FP.fadd f2 (FP.fmul (FP.fsub (FP.i2f (((gI M 32 x3.toNatClampNeg) >>> (8 &&& 31)) &&& 15)) 1089470464) (gF M 34 x3.toNatClampNeg)))))) := hV
        refine q_fald hx hb hK hC rfl (hL 34 (by decide) (by decide)) rfl w31 rfl dX7_sound_31 ?_
        obtain ⟨w32, hV⟩ : (vf_n32 (FP.fmul (FP.fsub (FP.i2f (((gI M 32 x3.toNatClampNeg) >>> (8 &&& 31)) &&& 15)) 1089470464) (gF M 34 x3.toNatClampNeg))) ∧ ((vf_n32 (FP.fadd f2 (FP.fmul (FP.fsub (FP.i2f (((gI M 32 x3.toNatClampNeg) >>> (8 &&& 31)) &&& 15)) 1089470464) (gF M 34 x3.toNatClampNeg)))) ∧ (vc_X7_sound_n2 (vc_X7_sound_B4 n) M x3 (FP.fadd f2 (FP.fmul (FP.fsub (FP.i2f (((gI M 32 x3.toNatClampNeg) >>> (8 &&& 31)) &&& 15)) 1089470464) (gF M 34 x3.toNatClampNeg))))) := hV
        refine lv_fmul hx hb dX7_sound_32 w32 ?_
        obtain ⟨w33, hV⟩ : (vf_n32 (FP.fadd f2 (FP.fmul (FP.fsub (FP.i2f (((gI M 32 x3.toNatClampNeg) >>> (8 &&& 31)) &&& 15)) 1089470464) (gF M 34 x3.toNatClampNeg)))) ∧ (vc_X7_sound_n2 (vc_X7_sound_B4 n) M x3 (FP.fadd f2 (FP.fmul (FP.fsub (FP.i2f (((gI M 32 x3.toNatClampNeg) >>> (8 &&& 31)) &&& 15)) 1089470464) (gF M 34 x3.toNatClampNeg)))) := hV
        refine lv_fadd hx hb dX7_sound_33 w33 ?_
        refine lv_topf (fun f4 ef4 => ?_)
        have hT : sp_X7_sound M = sp_X7_sound_n2 (sp_X7_sound_B4 n) M x3 f4 := by rw [ef4]; exact hT
        have hV : vc_X7_sound_n2 (vc_X7_sound_B4 n) M x3 f4 := by rw [ef4]; exact hV
        refine lv_fstore_n (lv' := [(1, .float f4), (0, .ref (ad 20)), (2, .int x3)]) hx hb dX7_sound_34 rfl hl (by decide) rfl (fun ls hl => ?_)
        obtain ⟨x5, ex5⟩ : ∃ z : Int32, z = x3 + 1 := ⟨_, rfl⟩
        have hT : sp_X7_sound M = sp_X7_sound_n1 (sp_X7_sound_B4 n) M f4 x5 := by rw [ex5]; exact hT
        have hV : vc_X7_sound_n1 (vc_X7_sound_B4 n) M f4 x5 := by rw [ex5]; exact hV
        refine lv_iinc (v := x5) (lv' := [(2, .int x5), (1, .float f4), (0, .ref (ad 20))]) hx hb dX7_sound_35 hl (k := 2) rfl (by rw [ex5]; rfl) (by decide) rfl (fun ls hl => ?_)
        refine lv_goto (tgt := 4) hx hb dX7_sound_38 (by decide) ?_
        exact ih f4 x5 _ _ _  hT hV hC (lv_sub hl [2, 1, 0] rfl)
  have hT : sp_X7_sound M = sp_X7_sound_n3 M FP.fconst0 := rfl
  have hV : vc_X7_sound_n3 M FP.fconst0 := hV
  refine lv_fconst0 hx hb dX7_sound_0 ?_
  refine lv_topf (fun f1 ef1 => ?_)
  have hT : sp_X7_sound M = sp_X7_sound_n3 M f1 := by rw [ef1]; exact hT
  have hV : vc_X7_sound_n3 M f1 := by rw [ef1]; exact hV
  refine lv_fstore_n (lv' := [(1, .float f1), (0, .ref (ad 20))]) hx hb dX7_sound_1 rfl hl (by decide) rfl (fun ls hl => ?_)
  refine lv_iconst (v := 0) hx hb dX7_sound_2 (by decide) ?_
  refine lv_istore_n (lv' := [(2, .int 0), (1, .float f1), (0, .ref (ad 20))]) hx hb dX7_sound_3 rfl hl (by decide) rfl (fun ls hl => ?_)
  exact J4 4 f1 0 _ _ _  hT hV hC (lv_sub hl [2, 1, 0] rfl)
