set_option maxHeartbeats 4000000 in
set_option maxRecDepth 100000 in
theorem c_X5_ring (l : Launch) (D : va_G) (cy ad : Nat → Nat) (L : List Nat) (sz : Nat) (hL : lr 10 14 L) (M : Mem) (h : Nat) (hh : isV h) (a1 : UInt32) (a2 : Int32) : Met l yX5_ring (Cond.code yX5_ring cX5_ring 3 (none) :: BG) ({ frames := 0, cells := 0, slots := 0, locals := 0 }) (va_Pc [.ref (ad h), .float a1, .int a2] (PW D cy ad L M sz)) (va_Qv (fun N => N = sp_X5_ring M h a1 a2) (OW D cy ad L sz) (fA ad L sz)) 0 0 (fA ad L sz) := by
  refine q_start (by decide) (Nat.le_of_ble_eq_true rfl) (fun p e s m below meth c H locs ls hsz hx hb hr hlocks hml hown hB hK hE hC hl => ?_)
  subst hsz
  have hown : s.vm.findClass "MazeBoard$Voice" = some m.cls := hown
  have hl : lv_has ls 3 [(0, .ref (ad h)), (1, .float a1), (2, .int a2)] := hl
  have hT : sp_X5_ring M h a1 a2 = sp_X5_ring_n2 h a2 (wF M h 2 a1) := rfl
  refine lv_aload_n hx hb dX5_ring_0 rfl (lv_at hl 0 rfl) ?_
  refine lv_fload_n hx hb dX5_ring_1 rfl (lv_at hl 1 rfl) ?_
  refine q_putf (T := TX5) hx hb hB uw_X5 tyX5 tyX5_ok nmX5 hown hK hC (isV.sh hh) (hL _ (Nat.le_trans (by decide) (hh).1) (Nat.le_trans (hh).2 (by decide))) rfl 2 (by decide) rfl (hB _ mw_1_205) rfl rfl dX5_ring_2 (fun H locs hC => ?_)
  obtain ⟨M1, eM1⟩ : ∃ z : Mem, z = wF M h 2 a1 := ⟨_, rfl⟩
  rw [← eM1] at hC
  have hT : sp_X5_ring M h a1 a2 = sp_X5_ring_n2 h a2 M1 := by rw [eM1]; exact hT
  refine lv_aload_n hx hb dX5_ring_5 rfl (lv_at hl 0 rfl) ?_
  refine lv_iload_n hx hb dX5_ring_6 rfl (lv_at hl 2 rfl) ?_
  refine q_puti (T := TX5) hx hb hB uw_X5 tyX5 tyX5_ok nmX5 hown hK hC (isV.sh hh) (hL _ (Nat.le_trans (by decide) (hh).1) (Nat.le_trans (hh).2 (by decide))) rfl 1 (by decide) rfl (hB _ mw_1_204) rfl rfl rfl rfl dX5_ring_7 (fun H locs hC => ?_)
  obtain ⟨M2, eM2⟩ : ∃ z : Mem, z = wI M1 h 1 a2 := ⟨_, rfl⟩
  rw [← eM2] at hC
  have hT : sp_X5_ring M h a1 a2 = sp_X5_ring_n1 M2 := by rw [eM2]; exact hT
  exact q_retv hx hb hr hlocks hC hT.symm dX5_ring_10
set_option maxHeartbeats 4000000 in
set_option maxRecDepth 100000 in
theorem c_X5_silence (l : Launch) (D : va_G) (cy ad : Nat → Nat) (L : List Nat) (sz : Nat) (hL : lr 10 14 L) (M : Mem) (h : Nat) (hh : isV h) : Met l yX5_silence (Cond.code yX5_silence cX5_silence 1 (none) :: BG) ({ frames := 1, cells := 0, slots := 0, locals := 22 }) (va_Pc [.ref (ad h)] (PW D cy ad L M sz)) (va_Qv (fun N => N = sp_X5_silence M h) (OW D cy ad L sz) (fA ad L sz)) 0 0 (fA ad L sz) := by
  refine q_start (by decide) (Nat.le_of_ble_eq_true rfl) (fun p e s m below meth c H locs ls hsz hx hb hr hlocks hml hown hB hK hE hC hl => ?_)
  subst hsz
  have hown : s.vm.findClass "MazeBoard$Voice" = some m.cls := hown
  have hl : lv_has ls 1 [(0, .ref (ad h))] := hl
  have hT : sp_X5_silence M h = sp_X5_silence_n2 h (wI M h 0 0) := rfl
  refine lv_aload_n hx hb dX5_silence_0 rfl (lv_at hl 0 rfl) ?_
  refine lv_iconst (v := 0) hx hb dX5_silence_1 (by decide) ?_
  refine q_puti (T := TX5) hx hb hB uw_X5 tyX5 tyX5_ok nmX5 hown hK hC (isV.sh hh) (hL _ (Nat.le_trans (by decide) (hh).1) (Nat.le_trans (hh).2 (by decide))) rfl 0 (by decide) rfl (hB _ mw_1_203) rfl rfl (by decide) (by decide) dX5_silence_2 (fun H locs hC => ?_)
  obtain ⟨M1, eM1⟩ : ∃ z : Mem, z = wI M h 0 0 := ⟨_, rfl⟩
  rw [← eM1] at hC
  have hT : sp_X5_silence M h = sp_X5_silence_n2 h M1 := by rw [eM1]; exact hT
  refine lv_aload_n hx hb dX5_silence_5 rfl (lv_at hl 0 rfl) ?_
  refine lv_fconst0 hx hb dX5_silence_6 ?_
  refine lv_iconst (v := 0) hx hb dX5_silence_7 (by decide) ?_
  refine q_Cv (q_V (own := "MazeBoard$Voice") (y := yX5_ring) (As := [.float FP.fconst0, .int 0]) (rest := []) ⟨hx, hb, hml, hown, hB⟩ hK hE hC (c_X5_ring l D cy ad L H.size (hL.sub (by decide) (by decide)) M1 h hh FP.fconst0 0) (isV.sh hh) (hL _ (Nat.le_trans (by decide) (hh).1) (Nat.le_trans (hh).2 (by decide))) rfl mw_2_201 mw_2_179 mw_2_180 mw_1_6 mw_2_181 rfl yd_X5_ring ⟨rfl, rfl⟩ ⟨Nat.le_of_ble_eq_true rfl, Nat.le_of_ble_eq_true rfl⟩ rfl hl.1 rfl (Nat.le_of_ble_eq_true rfl) dX5_silence_8 ⟨Nat.le_refl _, Nat.le_refl _⟩) hC (fun M2 H locs eM2 hC => ?_)
  have hT : sp_X5_silence M h = sp_X5_silence_n1 M2 := by rw [eM2]; exact hT
  exact q_retv hx hb hr hlocks hC hT.symm dX5_silence_11
set_option maxHeartbeats 4000000 in
set_option maxRecDepth 100000 in
theorem c_X4_silence (l : Launch) (D : va_G) (cy ad : Nat → Nat) (L : List Nat) (sz : Nat) (hL : lr 10 14 L) (M : Mem)  (hV : vc_X4_silence M ) : Met l yX4_silence (Cond.code yX4_silence cX4_silence 2 (none) :: BG) ({ frames := 2, cells := 0, slots := 0, locals := 42 }) (va_Pc [.ref (ad 10)] (PW D cy ad L M sz)) (va_Qv (fun N => N = sp_X4_silence M) (OW D cy ad L sz) (fA ad L sz)) 0 0 (fA ad L sz) := by
  refine q_start (by decide) (Nat.le_of_ble_eq_true rfl) (fun p e s m below meth c H locs ls hsz hx hb hr hlocks hml hown hB hK hE hC hl => ?_)
  subst hsz
  have hown : s.vm.findClass "MazeBoard$Speaker" = some m.cls := hown
  have hl : lv_has ls 2 [(0, .ref (ad 10))] := hl
  have J2 : ∀ (n : Nat) (x1 : Int32) (M2 : Mem) (H : Heap) (locs : List Loc) (ls : Array Slot) (hT : sp_X4_silence M = sp_X4_silence_B2 n x1 M2) (hV : vc_X4_silence_B2 n x1 M2) (hC : Cx D cy ad R0 L (fA ad L s.heap.size) s M2 H locs) (hl : lv_has ls 2 [(0, .ref (ad 10)), (1, .int x1)]), W p l e ({ frames := 2, cells := 0, slots := 0, locals := 42 }) s m ([.ref (ad 10)] : List Value).toArray below meth c H locs 0 0 (MQ below (va_Qv (fun N => N = sp_X4_silence M) (OW D cy ad L s.heap.size) (fA ad L s.heap.size)) ([.ref (ad 10)] : List Value).toArray s 0 0 (fA ad L s.heap.size)) (F0 m 2 ls []) := by
    intro n
    induction n with
    | zero => intro x1 M2 H locs ls  hT hV; exact hV.elim
    | succ n ih =>
      intro x1 M2 H locs ls  hT hV hC hl
      have hT : sp_X4_silence M = if 3 ≤ x1 then M2 else (sp_X4_silence_n2 (sp_X4_silence_B2 n) x1 (sp_X5_silence M2 (12 + x1.toNatClampNeg))) := hT
      have hV : if 3 ≤ x1 then True else (vp_in x1 3 ∧ (vc_X4_silence_n2 (vc_X4_silence_B2 n) x1 (sp_X5_silence M2 (12 + x1.toNatClampNeg)))) := hV
      refine lv_iload_n hx hb dX4_silence_2 rfl (lv_at hl 1 rfl) ?_
      refine lv_iconst (v := 3) hx hb dX4_silence_3 (by decide) ?_
      refine lv_icmp_ge (tgt := 22) hx hb dX4_silence_4 (by decide) (fun c4 => ?_) (fun c4 => ?_)
      · have hT : sp_X4_silence M = M2 := hT.trans (if_pos c4)
        exact q_retv hx hb hr hlocks hC hT.symm dX4_silence_22
      · have hT : sp_X4_silence M = sp_X4_silence_n2 (sp_X4_silence_B2 n) x1 (sp_X5_silence M2 (12 + x1.toNatClampNeg)) := hT.trans (if_neg c4)
        have hV : vp_in x1 3 ∧ (vc_X4_silence_n2 (vc_X4_silence_B2 n) x1 (sp_X5_silence M2 (12 + x1.toNatClampNeg))) := iteF hV c4
        refine lv_aload_n hx hb dX4_silence_7 rfl (lv_at hl 0 rfl) ?_
        refine q_getr (T := TX4) hx hb hB uw_X4 hown hK hC rfl (hL 10 (by decide) (by decide)) rfl 0 (by decide) rfl rfl (hB _ mw_1_214) dX4_silence_8 ?_
        refine lv_iload_n hx hb dX4_silence_11 rfl (lv_at hl 1 rfl) ?_
        obtain ⟨w12, hV⟩ : vp_in x1 3 ∧ (vc_X4_silence_n2 (vc_X4_silence_B2 n) x1 (sp_X5_silence M2 (12 + x1.toNatClampNeg))) := hV
        refine q_aald hx hb hK hC rfl (hL 11 (by decide) (by decide)) rfl w12 rfl dX4_silence_12 ?_
        refine q_Cv (q_V (own := "MazeBoard$Speaker") (y := yX5_silence) (As := []) (rest := []) ⟨hx, hb, hml, hown, hB⟩ hK hE hC (c_X5_silence l D cy ad L H.size (hL.sub (by decide) (by decide)) M2 (12 + x1.toNatClampNeg) (isV.of w12)) (isV.sh (isV.of w12)) (hL _ (Nat.le_trans (by decide) ((isV.of w12)).1) (Nat.le_trans ((isV.of w12)).2 (by decide))) rfl mw_2_197 mw_2_198 mw_2_199 mw_1_6 mw_2_200 rfl yd_X5_silence ⟨rfl, rfl⟩ ⟨Nat.le_of_ble_eq_true rfl, Nat.le_of_ble_eq_true rfl⟩ rfl hl.1 rfl (Nat.le_of_ble_eq_true rfl) dX4_silence_13 ⟨Nat.le_refl _, Nat.le_refl _⟩) hC (fun M3 H locs eM3 hC => ?_)
        have hT : sp_X4_silence M = sp_X4_silence_n2 (sp_X4_silence_B2 n) x1 M3 := by rw [eM3]; exact hT
        have hV : vc_X4_silence_n2 (vc_X4_silence_B2 n) x1 M3 := by rw [eM3]; exact hV
        obtain ⟨x4, ex4⟩ : ∃ z : Int32, z = x1 + 1 := ⟨_, rfl⟩
        have hT : sp_X4_silence M = sp_X4_silence_n1 (sp_X4_silence_B2 n) M3 x4 := by rw [ex4]; exact hT
        have hV : vc_X4_silence_n1 (vc_X4_silence_B2 n) M3 x4 := by rw [ex4]; exact hV
        refine lv_iinc (v := x4) (lv' := [(1, .int x4), (0, .ref (ad 10))]) hx hb dX4_silence_16 hl (k := 1) rfl (by rw [ex4]; rfl) (by decide) rfl (fun ls hl => ?_)
        refine lv_goto (tgt := 2) hx hb dX4_silence_19 (by decide) ?_
        exact ih x4 M3 _ _ _  hT hV hC (lv_sub hl [1, 0] rfl)
  have hT : sp_X4_silence M = sp_X4_silence_B2 4 0 M := rfl
  have hV : vc_X4_silence_B2 4 0 M := hV
  refine lv_iconst (v := 0) hx hb dX4_silence_0 (by decide) ?_
  refine lv_istore_n (lv' := [(1, .int 0), (0, .ref (ad 10))]) hx hb dX4_silence_1 rfl hl (by decide) rfl (fun ls hl => ?_)
  exact J2 4 0 M _ _ _  hT hV hC (lv_sub hl [1, 0] rfl)
set_option maxHeartbeats 4000000 in
set_option maxRecDepth 100000 in
theorem c_X5_passFrame (l : Launch) (D : va_G) (cy ad : Nat → Nat) (L : List Nat) (sz : Nat) (hL : lr 10 14 L) (M : Mem) (h : Nat) (hh : isV h) (hV : vc_X5_passFrame M h) : Met l yX5_passFrame (Cond.code yX5_passFrame cX5_passFrame 1 (none) :: BG) ({ frames := 0, cells := 0, slots := 0, locals := 0 }) (va_Pc [.ref (ad h)] (PW D cy ad L M sz)) (va_Qv (fun N => N = sp_X5_passFrame M h) (OW D cy ad L sz) (fA ad L sz)) 0 0 (fA ad L sz) := by
  refine q_start (by decide) (Nat.le_of_ble_eq_true rfl) (fun p e s m below meth c H locs ls hsz hx hb hr hlocks hml hown hB hK hE hC hl => ?_)
  subst hsz
  have hown : s.vm.findClass "MazeBoard$Voice" = some m.cls := hown
  have hl : lv_has ls 1 [(0, .ref (ad h))] := hl
  have hT : sp_X5_passFrame M h = sp_X5_passFrame_n2 h (wI M h 0 (((gI M h 0) + (gI M h 1)).toInt16.toInt32)) := rfl
  have hV : vc_X5_passFrame_n2 h (wI M h 0 (((gI M h 0) + (gI M h 1)).toInt16.toInt32)) := hV
  refine lv_aload_n hx hb dX5_passFrame_0 rfl (lv_at hl 0 rfl) ?_
  refine lv_aload_n hx hb dX5_passFrame_1 rfl (lv_at hl 0 rfl) ?_
  refine q_geti (T := TX5) hx hb hB uw_X5 hown hK hC (isV.sh hh) (hL _ (Nat.le_trans (by decide) (hh).1) (Nat.le_trans (hh).2 (by decide))) rfl 0 (by decide) rfl (hB _ mw_1_203) dX5_passFrame_2 ?_
  refine lv_aload_n hx hb dX5_passFrame_5 rfl (lv_at hl 0 rfl) ?_
  refine q_geti (T := TX5) hx hb hB uw_X5 hown hK hC (isV.sh hh) (hL _ (Nat.le_trans (by decide) (hh).1) (Nat.le_trans (hh).2 (by decide))) rfl 1 (by decide) rfl (hB _ mw_1_204) dX5_passFrame_6 ?_
  refine lv_iadd hx hb dX5_passFrame_9 ?_
  refine lv_i2s hx hb dX5_passFrame_10 rfl ?_
  refine q_puti (T := TX5) hx hb hB uw_X5 tyX5 tyX5_ok nmX5 hown hK hC (isV.sh hh) (hL _ (Nat.le_trans (by decide) (hh).1) (Nat.le_trans (hh).2 (by decide))) rfl 0 (by decide) rfl (hB _ mw_1_203) rfl rfl (pk_ns _) (pk_fs _) dX5_passFrame_11 (fun H locs hC => ?_)
  obtain ⟨M1, eM1⟩ : ∃ z : Mem, z = wI M h 0 (((gI M h 0) + (gI M h 1)).toInt16.toInt32) := ⟨_, rfl⟩
  rw [← eM1] at hC
  have hT : sp_X5_passFrame M h = sp_X5_passFrame_n2 h M1 := by rw [eM1]; exact hT
  have hV : vc_X5_passFrame_n2 h M1 := by rw [eM1]; exact hV
  refine lv_aload_n hx hb dX5_passFrame_14 rfl (lv_at hl 0 rfl) ?_
  refine lv_aload_n hx hb dX5_passFrame_15 rfl (lv_at hl 0 rfl) ?_
  refine q_getf (T := TX5) hx hb hB uw_X5 hown hK hC (isV.sh hh) (hL _ (Nat.le_trans (by decide) (hh).1) (Nat.le_trans (hh).2 (by decide))) rfl 2 (by decide) rfl (hB _ mw_1_205) dX5_passFrame_16 ?_
  refine lv_ldcf (v := 1063675494) hx hb hown (hB _ mw_2_177) dX5_passFrame_19 ?_
  have w21 : vf_n32 (FP.fmul (gF M1 h 2) 1063675494) := hV
  refine lv_fmul hx hb dX5_passFrame_21 w21 ?_
  refine q_putf (T := TX5) hx hb hB uw_X5 tyX5 tyX5_ok nmX5 hown hK hC (isV.sh hh) (hL _ (Nat.le_trans (by decide) (hh).1) (Nat.le_trans (hh).2 (by decide))) rfl 2 (by decide) rfl (hB _ mw_1_205) rfl rfl dX5_passFrame_22 (fun H locs hC => ?_)
  obtain ⟨M2, eM2⟩ : ∃ z : Mem, z = wF M1 h 2 (FP.fmul (gF M1 h 2) 1063675494) := ⟨_, rfl⟩
  rw [← eM2] at hC
  have hT : sp_X5_passFrame M h = sp_X5_passFrame_n1 M2 := by rw [eM2]; exact hT
  exact q_retv hx hb hr hlocks hC hT.symm dX5_passFrame_25
set_option maxHeartbeats 4000000 in
set_option maxRecDepth 100000 in
theorem c_X4_playFrame (l : Launch) (D : va_G) (cy ad : Nat → Nat) (L : List Nat) (sz : Nat) (hL : lr 1 14 L) (M : Mem)  (hV : vc_X4_playFrame M ) : Met l yX4_playFrame (Cond.code yX4_playFrame cX4_playFrame 3 (none) :: BG) ({ frames := 2, cells := 0, slots := 0, locals := 40 }) (va_Pc [.ref (ad 10), .ref (ad 1)] (PW D cy ad L M sz)) (va_Qv (fun N => N = sp_X4_playFrame M) (OW D cy ad L sz) (fA ad L sz)) 0 0 (fA ad L sz) := by
  refine q_start (by decide) (Nat.le_of_ble_eq_true rfl) (fun p e s m below meth c H locs ls hsz hx hb hr hlocks hml hown hB hK hE hC hl => ?_)
  subst hsz
  have hown : s.vm.findClass "MazeBoard$Speaker" = some m.cls := hown
  have hl : lv_has ls 3 [(0, .ref (ad 10)), (1, .ref (ad 1))] := hl
  have J105 : ∀ (M12 : Mem) (H : Heap) (locs : List Loc) (ls : Array Slot) (hT : sp_X4_playFrame M = sp_X4_playFrame_B105 M12) (hC : Cx D cy ad R0 L (fA ad L s.heap.size) s M12 H locs) (hl : lv_has ls 3 []), W p l e ({ frames := 2, cells := 0, slots := 0, locals := 40 }) s m ([.ref (ad 10), .ref (ad 1)] : List Value).toArray below meth c H locs 0 0 (MQ below (va_Qv (fun N => N = sp_X4_playFrame M) (OW D cy ad L s.heap.size) (fA ad L s.heap.size)) ([.ref (ad 10), .ref (ad 1)] : List Value).toArray s 0 0 (fA ad L s.heap.size)) (F0 m 105 ls []) := by
    intro M12 H locs ls  hT hC hl
    have hT : sp_X4_playFrame M = M12 := hT
    exact q_retv hx hb hr hlocks hC hT.symm dX4_playFrame_105
  have J85 : ∀ (M10 : Mem) (H : Heap) (locs : List Loc) (ls : Array Slot) (hT : sp_X4_playFrame M = sp_X4_playFrame_B85 M10) (hC : Cx D cy ad R0 L (fA ad L s.heap.size) s M10 H locs) (hl : lv_has ls 3 [(0, .ref (ad 10)), (1, .ref (ad 1))]), W p l e ({ frames := 2, cells := 0, slots := 0, locals := 40 }) s m ([.ref (ad 10), .ref (ad 1)] : List Value).toArray below meth c H locs 0 0 (MQ below (va_Qv (fun N => N = sp_X4_playFrame M) (OW D cy ad L s.heap.size) (fA ad L s.heap.size)) ([.ref (ad 10), .ref (ad 1)] : List Value).toArray s 0 0 (fA ad L s.heap.size)) (F0 m 85 ls []) := by
    intro M10 H locs ls  hT hC hl
    have hT : sp_X4_playFrame M = if (gI M10 1 15) = 0 then (sp_X4_playFrame_B105 M10) else (sp_X4_playFrame_n1 (sp_X5_ring M10 14 1069547520 100)) := hT
    refine lv_aload_n hx hb dX4_playFrame_85 rfl (lv_at hl 1 rfl) ?_
    refine q_geti (T := TX1) hx hb hB uw_X1 hown hK hC rfl (hL 1 (by decide) (by decide)) rfl 15 (by decide) rfl (hB _ mw_1_155) dX4_playFrame_86 ?_
    refine lv_if_eq (tgt := 105) hx hb dX4_playFrame_89 (by decide) (fun c89 => ?_) (fun c89 => ?_)
    · have hT : sp_X4_playFrame M = sp_X4_playFrame_B105 M10 := hT.trans (if_pos c89)
      exact J105 M10 _ _ _  hT hC (lv_sub hl [] rfl)
    · have hT : sp_X4_playFrame M = sp_X4_playFrame_n1 (sp_X5_ring M10 14 1069547520 100) := hT.trans (if_neg c89)
      refine lv_aload_n hx hb dX4_playFrame_92 rfl (lv_at hl 0 rfl) ?_
      refine q_getr (T := TX4) hx hb hB uw_X4 hown hK hC rfl (hL 10 (by decide) (by decide)) rfl 0 (by decide) rfl rfl (hB _ mw_1_214) dX4_playFrame_93 ?_
      refine lv_iconst (v := 2) hx hb dX4_playFrame_96 (by decide) ?_
      refine q_aald (j := 14) hx hb hK hC rfl (hL 11 (by decide) (by decide)) rfl (by unfold vp_in; decide) (by decide) dX4_playFrame_97 ?_
      refine lv_ldcf (v := 1069547520) hx hb hown (hB _ mw_2_187) dX4_playFrame_98 ?_
      refine lv_bipush (v := 100) hx hb dX4_playFrame_100 (by decide) ?_
      refine q_Cv (q_V (own := "MazeBoard$Speaker") (y := yX5_ring) (As := [.float 1069547520, .int 100]) (rest := []) ⟨hx, hb, hml, hown, hB⟩ hK hE hC (c_X5_ring l D cy ad L H.size (hL.sub (by decide) (by decide)) M10 14 (⟨by decide, by decide⟩) 1069547520 100) rfl (hL 14 (by decide) (by decide)) rfl mw_2_178 mw_2_179 mw_2_180 mw_1_6 mw_2_181 rfl yd_X5_ring ⟨rfl, rfl⟩ ⟨Nat.le_of_ble_eq_true rfl, Nat.le_of_ble_eq_true rfl⟩ rfl hl.1 rfl (Nat.le_of_ble_eq_true rfl) dX4_playFrame_102 ⟨Nat.le_refl _, Nat.le_refl _⟩) hC (fun M11 H locs eM11 hC => ?_)
      have hT : sp_X4_playFrame M = sp_X4_playFrame_n1 M11 := by rw [eM11]; exact hT
      exact J105 M11 _ _ _  hT hC (lv_sub hl [] rfl)
  have J64 : ∀ (M8 : Mem) (H : Heap) (locs : List Loc) (ls : Array Slot) (hT : sp_X4_playFrame M = sp_X4_playFrame_B64 M8) (hC : Cx D cy ad R0 L (fA ad L s.heap.size) s M8 H locs) (hl : lv_has ls 3 [(0, .ref (ad 10)), (1, .ref (ad 1))]), W p l e ({ frames := 2, cells := 0, slots := 0, locals := 40 }) s m ([.ref (ad 10), .ref (ad 1)] : List Value).toArray below meth c H locs 0 0 (MQ below (va_Qv (fun N => N = sp_X4_playFrame M) (OW D cy ad L s.heap.size) (fA ad L s.heap.size)) ([.ref (ad 10), .ref (ad 1)] : List Value).toArray s 0 0 (fA ad L s.heap.size)) (F0 m 64 ls []) := by
    intro M8 H locs ls  hT hC hl
    have hT : sp_X4_playFrame M = if (gI M8 1 14) = 0 then (sp_X4_playFrame_B85 M8) else (sp_X4_playFrame_n2 (sp_X5_ring M8 14 1069547520 1500)) := hT
    refine lv_aload_n hx hb dX4_playFrame_64 rfl (lv_at hl 1 rfl) ?_
    refine q_geti (T := TX1) hx hb hB uw_X1 hown hK hC rfl (hL 1 (by decide) (by decide)) rfl 14 (by decide) rfl (hB _ mw_1_153) dX4_playFrame_65 ?_
    refine lv_if_eq (tgt := 85) hx hb dX4_playFrame_68 (by decide) (fun c68 => ?_) (fun c68 => ?_)
    · have hT : sp_X4_playFrame M = sp_X4_playFrame_B85 M8 := hT.trans (if_pos c68)
      exact J85 M8 _ _ _  hT hC (lv_sub hl [0, 1] rfl)
    · have hT : sp_X4_playFrame M = sp_X4_playFrame_n2 (sp_X5_ring M8 14 1069547520 1500) := hT.trans (if_neg c68)
      refine lv_aload_n hx hb dX4_playFrame_71 rfl (lv_at hl 0 rfl) ?_
      refine q_getr (T := TX4) hx hb hB uw_X4 hown hK hC rfl (hL 10 (by decide) (by decide)) rfl 0 (by decide) rfl rfl (hB _ mw_1_214) dX4_playFrame_72 ?_
      refine lv_iconst (v := 2) hx hb dX4_playFrame_75 (by decide) ?_
      refine q_aald (j := 14) hx hb hK hC rfl (hL 11 (by decide) (by decide)) rfl (by unfold vp_in; decide) (by decide) dX4_playFrame_76 ?_
      refine lv_ldcf (v := 1069547520) hx hb hown (hB _ mw_2_187) dX4_playFrame_77 ?_
      refine lv_sipush (v := 1500) hx hb dX4_playFrame_79 (by decide) ?_
      refine q_Cv (q_V (own := "MazeBoard$Speaker") (y := yX5_ring) (As := [.float 1069547520, .int 1500]) (rest := []) ⟨hx, hb, hml, hown, hB⟩ hK hE hC (c_X5_ring l D cy ad L H.size (hL.sub (by decide) (by decide)) M8 14 (⟨by decide, by decide⟩) 1069547520 1500) rfl (hL 14 (by decide) (by decide)) rfl mw_2_178 mw_2_179 mw_2_180 mw_1_6 mw_2_181 rfl yd_X5_ring ⟨rfl, rfl⟩ ⟨Nat.le_of_ble_eq_true rfl, Nat.le_of_ble_eq_true rfl⟩ rfl hl.1 rfl (Nat.le_of_ble_eq_true rfl) dX4_playFrame_82 ⟨Nat.le_refl _, Nat.le_refl _⟩) hC (fun M9 H locs eM9 hC => ?_)
      have hT : sp_X4_playFrame M = sp_X4_playFrame_n2 M9 := by rw [eM9]; exact hT
      exact J85 M9 _ _ _  hT hC (lv_sub hl [0, 1] rfl)
  have J42 : ∀ (M6 : Mem) (H : Heap) (locs : List Loc) (ls : Array Slot) (hT : sp_X4_playFrame M = sp_X4_playFrame_B42 M6) (hV : vc_X4_playFrame_B42 M6) (hC : Cx D cy ad R0 L (fA ad L s.heap.size) s M6 H locs) (hl : lv_has ls 3 [(0, .ref (ad 10)), (1, .ref (ad 1))]), W p l e ({ frames := 2, cells := 0, slots := 0, locals := 40 }) s m ([.ref (ad 10), .ref (ad 1)] : List Value).toArray below meth c H locs 0 0 (MQ below (va_Qv (fun N => N = sp_X4_playFrame M) (OW D cy ad L s.heap.size) (fA ad L s.heap.size)) ([.ref (ad 10), .ref (ad 1)] : List Value).toArray s 0 0 (fA ad L s.heap.size)) (F0 m 42 ls []) := by
    intro M6 H locs ls  hT hV hC hl
    have hT : sp_X4_playFrame M = if (gI M6 1 3) = 0 then (sp_X4_playFrame_B64 M6) else (sp_X4_playFrame_n3 (sp_X5_ring M6 13 1056964608 (sp_X1_humPitch M6))) := hT
    have hV : if (gI M6 1 3) = 0 then True else vc_X1_humPitch M6 := hV
    refine lv_aload_n hx hb dX4_playFrame_42 rfl (lv_at hl 1 rfl) ?_
    refine q_geti (T := TX1) hx hb hB uw_X1 hown hK hC rfl (hL 1 (by decide) (by decide)) rfl 3 (by decide) rfl (hB _ mw_1_134) dX4_playFrame_43 ?_
    refine lv_if_eq (tgt := 64) hx hb dX4_playFrame_46 (by decide) (fun c46 => ?_) (fun c46 => ?_)
    · have hT : sp_X4_playFrame M = sp_X4_playFrame_B64 M6 := hT.trans (if_pos c46)
      exact J64 M6 _ _ _  hT hC (lv_sub hl [0, 1] rfl)
    · have hT : sp_X4_playFrame M = sp_X4_playFrame_n3 (sp_X5_ring M6 13 1056964608 (sp_X1_humPitch M6)) := hT.trans (if_neg c46)
      have hV : vc_X1_humPitch M6 := iteF hV c46
      refine lv_aload_n hx hb dX4_playFrame_49 rfl (lv_at hl 0 rfl) ?_
      refine q_getr (T := TX4) hx hb hB uw_X4 hown hK hC rfl (hL 10 (by decide) (by decide)) rfl 0 (by decide) rfl rfl (hB _ mw_1_214) dX4_playFrame_50 ?_
      refine lv_iconst (v := 1) hx hb dX4_playFrame_53 (by decide) ?_
      refine q_aald (j := 13) hx hb hK hC rfl (hL 11 (by decide) (by decide)) rfl (by unfold vp_in; decide) (by decide) dX4_playFrame_54 ?_
      refine lv_ldcf (v := 1056964608) hx hb hown (hB _ mw_2_182) dX4_playFrame_55 ?_
      refine lv_aload_n hx hb dX4_playFrame_57 rfl (lv_at hl 1 rfl) ?_
      have v58 : vc_X1_humPitch M6 := hV
      refine q_Ci (q_V (own := "MazeBoard$Speaker") (y := yX1_humPitch) (As := []) (rest := [.float 1056964608, .ref (ad 13)]) ⟨hx, hb, hml, hown, hB⟩ hK hE hC (c_X1_humPitch l D cy ad L H.size (hL.sub (by decide) (by decide)) M6  v58) rfl (hL 1 (by decide) (by decide)) rfl mw_2_183 mw_2_184 mw_2_185 mw_1_2 mw_2_186 rfl yd_X1_humPitch ⟨rfl, rfl⟩ ⟨Nat.le_of_ble_eq_true rfl, Nat.le_of_ble_eq_true rfl⟩ rfl hl.1 rfl (Nat.le_of_ble_eq_true rfl) dX4_playFrame_58 ⟨Nat.le_refl _, Nat.le_refl _⟩) hC (fun r N_ H locs hp hC => ?_)
      obtain ⟨hr_, hM_⟩ := hp
      subst hr_
      rw [hM_] at hC
      refine q_Cv (q_V (own := "MazeBoard$Speaker") (y := yX5_ring) (As := [.float 1056964608, .int (sp_X1_humPitch M6)]) (rest := []) ⟨hx, hb, hml, hown, hB⟩ hK hE hC (c_X5_ring l D cy ad L H.size (hL.sub (by decide) (by decide)) M6 13 (⟨by decide, by decide⟩) 1056964608 (sp_X1_humPitch M6)) rfl (hL 13 (by decide) (by decide)) rfl mw_2_178 mw_2_179 mw_2_180 mw_1_6 mw_2_181 rfl yd_X5_ring ⟨rfl, rfl⟩ ⟨Nat.le_of_ble_eq_true rfl, Nat.le_of_ble_eq_true rfl⟩ rfl hl.1 rfl (Nat.le_of_ble_eq_true rfl) dX4_playFrame_61 ⟨Nat.le_refl _, Nat.le_refl _⟩) hC (fun M7 H locs eM7 hC => ?_)
      have hT : sp_X4_playFrame M = sp_X4_playFrame_n3 M7 := by rw [eM7]; exact hT
      exact J64 M7 _ _ _  hT hC (lv_sub hl [0, 1] rfl)
  have J2 : ∀ (n : Nat) (x1 : Int32) (M2 : Mem) (H : Heap) (locs : List Loc) (ls : Array Slot) (hT : sp_X4_playFrame M = sp_X4_playFrame_B2 n x1 M2) (hV : vc_X4_playFrame_B2 n x1 M2) (hC : Cx D cy ad R0 L (fA ad L s.heap.size) s M2 H locs) (hl : lv_has ls 3 [(0, .ref (ad 10)), (1, .ref (ad 1)), (2, .int x1)]), W p l e ({ frames := 2, cells := 0, slots := 0, locals := 40 }) s m ([.ref (ad 10), .ref (ad 1)] : List Value).toArray below meth c H locs 0 0 (MQ below (va_Qv (fun N => N = sp_X4_playFrame M) (OW D cy ad L s.heap.size) (fA ad L s.heap.size)) ([.ref (ad 10), .ref (ad 1)] : List Value).toArray s 0 0 (fA ad L s.heap.size)) (F0 m 2 ls []) := by
    intro n
    induction n with
    | zero => intro x1 M2 H locs ls  hT hV; exact hV.elim
    | succ n ih =>
      intro x1 M2 H locs ls  hT hV hC hl
      have hT : sp_X4_playFrame M = if 3 ≤ x1 then (if (gI M2 1 13) = 0 then (sp_X4_playFrame_B42 M2) else (sp_X4_playFrame_n4 (sp_X5_ring M2 12 FP.fconst1 900))) else (sp_X4_playFrame_n6 (sp_X4_playFrame_B2 n) x1 (sp_X5_passFrame M2 (12 + x1.toNatClampNeg))) := hT
      have hV : if 3 ≤ x1 then (if (gI M2 1 13) = 0 then vc_X4_playFrame_B42 M2 else (vc_X4_playFrame_n4 (sp_X5_ring M2 12 FP.fconst1 900))) else (vp_in x1 3 ∧ ((vc_X5_passFrame M2 (12 + x1.toNatClampNeg)) ∧ (vc_X4_playFrame_n6 (vc_X4_playFrame_B2 n) x1 (sp_X5_passFrame M2 (12 + x1.toNatClampNeg))))) := hV
      refine lv_iload_n hx hb dX4_playFrame_2 rfl (lv_at hl 2 rfl) ?_
      refine lv_iconst (v := 3) hx hb dX4_playFrame_3 (by decide) ?_
      refine lv_icmp_ge (tgt := 22) hx hb dX4_playFrame_4 (by decide) (fun c4 => ?_) (fun c4 => ?_)
      · have hT : sp_X4_playFrame M = if (gI M2 1 13) = 0 then (sp_X4_playFrame_B42 M2) else (sp_X4_playFrame_n4 (sp_X5_ring M2 12 FP.fconst1 900)) := hT.trans (if_pos c4)
        have hV : if (gI M2 1 13) = 0 then vc_X4_playFrame_B42 M2 else (vc_X4_playFrame_n4 (sp_X5_ring M2 12 FP.fconst1 900)) := iteT hV c4
        refine lv_aload_n hx hb dX4_playFrame_22 rfl (lv_at hl 1 rfl) ?_
        refine q_geti (T := TX1) hx hb hB uw_X1 hown hK hC rfl (hL 1 (by decide) (by decide)) rfl 13 (by decide) rfl (hB _ mw_1_151) dX4_playFrame_23 ?_
        refine lv_if_eq (tgt := 42) hx hb dX4_playFrame_26 (by decide) (fun c26 => ?_) (fun c26 => ?_)
        · have hT : sp_X4_playFrame M = sp_X4_playFrame_B42 M2 := hT.trans (if_pos c26)
          have hV : vc_X4_playFrame_B42 M2 := iteT hV c26
          exact J42 M2 _ _ _  hT hV hC (lv_sub hl [0, 1] rfl)
        · have hT : sp_X4_playFrame M = sp_X4_playFrame_n4 (sp_X5_ring M2 12 FP.fconst1 900) := hT.trans (if_neg c26)
          have hV : vc_X4_playFrame_n4 (sp_X5_ring M2 12 FP.fconst1 900) := iteF hV c26
          refine lv_aload_n hx hb dX4_playFrame_29 rfl (lv_at hl 0 rfl) ?_
          refine q_getr (T := TX4) hx hb hB uw_X4 hown hK hC rfl (hL 10 (by decide) (by decide)) rfl 0 (by decide) rfl rfl (hB _ mw_1_214) dX4_playFrame_30 ?_
          refine lv_iconst (v := 0) hx hb dX4_playFrame_33 (by decide) ?_
          refine q_aald (j := 12) hx hb hK hC rfl (hL 11 (by decide) (by decide)) rfl (by unfold vp_in; decide) (by decide) dX4_playFrame_34 ?_
          refine lv_fconst1 hx hb dX4_playFrame_35 ?_
          refine lv_sipush (v := 900) hx hb dX4_playFrame_36 (by decide) ?_
          refine q_Cv (q_V (own := "MazeBoard$Speaker") (y := yX5_ring) (As := [.float FP.fconst1, .int 900]) (rest := []) ⟨hx, hb, hml, hown, hB⟩ hK hE hC (c_X5_ring l D cy ad L H.size (hL.sub (by decide) (by decide)) M2 12 (⟨by decide, by decide⟩) FP.fconst1 900) rfl (hL 12 (by decide) (by decide)) rfl mw_2_178 mw_2_179 mw_2_180 mw_1_6 mw_2_181 rfl yd_X5_ring ⟨rfl, rfl⟩ ⟨Nat.le_of_ble_eq_true rfl, Nat.le_of_ble_eq_true rfl⟩ rfl hl.1 rfl (Nat.le_of_ble_eq_true rfl) dX4_playFrame_39 ⟨Nat.le_refl _, Nat.le_refl _⟩) hC (fun M3 H locs eM3 hC => ?_)
          have hT : sp_X4_playFrame M = sp_X4_playFrame_n4 M3 := by rw [eM3]; exact hT
          have hV : vc_X4_playFrame_n4 M3 := by rw [eM3]; exact hV
          exact J42 M3 _ _ _  hT hV hC (lv_sub hl [0, 1] rfl)
      · have hT : sp_X4_playFrame M = sp_X4_playFrame_n6 (sp_X4_playFrame_B2 n) x1 (sp_X5_passFrame M2 (12 + x1.toNatClampNeg)) := hT.trans (if_neg c4)
        have hV : vp_in x1 3 ∧ ((vc_X5_passFrame M2 (12 + x1.toNatClampNeg)) ∧ (vc_X4_playFrame_n6 (vc_X4_playFrame_B2 n) x1 (sp_X5_passFrame M2 (12 + x1.toNatClampNeg)))) := iteF hV c4
        refine lv_aload_n hx hb dX4_playFrame_7 rfl (lv_at hl 0 rfl) ?_
        refine q_getr (T := TX4) hx hb hB uw_X4 hown hK hC rfl (hL 10 (by decide) (by decide)) rfl 0 (by decide) rfl rfl (hB _ mw_1_214) dX4_playFrame_8 ?_
        refine lv_iload_n hx hb dX4_playFrame_11 rfl (lv_at hl 2 rfl) ?_
        obtain ⟨w12, hV⟩ : vp_in x1 3 ∧ ((vc_X5_passFrame M2 (12 + x1.toNatClampNeg)) ∧ (vc_X4_playFrame_n6 (vc_X4_playFrame_B2 n) x1 (sp_X5_passFrame M2 (12 + x1.toNatClampNeg)))) := hV
        refine q_aald hx hb hK hC rfl (hL 11 (by decide) (by decide)) rfl w12 rfl dX4_playFrame_12 ?_
        obtain ⟨v13, hV⟩ : (vc_X5_passFrame M2 (12 + x1.toNatClampNeg)) ∧ (vc_X4_playFrame_n6 (vc_X4_playFrame_B2 n) x1 (sp_X5_passFrame M2 (12 + x1.toNatClampNeg))) := hV
        refine q_Cv (q_V (own := "MazeBoard$Speaker") (y := yX5_passFrame) (As := []) (rest := []) ⟨hx, hb, hml, hown, hB⟩ hK hE hC (c_X5_passFrame l D cy ad L H.size (hL.sub (by decide) (by decide)) M2 (12 + x1.toNatClampNeg) (isV.of w12) v13) (isV.sh (isV.of w12)) (hL _ (Nat.le_trans (by decide) ((isV.of w12)).1) (Nat.le_trans ((isV.of w12)).2 (by decide))) rfl mw_2_173 mw_2_174 mw_2_175 mw_1_6 mw_2_176 rfl yd_X5_passFrame ⟨rfl, rfl⟩ ⟨Nat.le_of_ble_eq_true rfl, Nat.le_of_ble_eq_true rfl⟩ rfl hl.1 rfl (Nat.le_of_ble_eq_true rfl) dX4_playFrame_13 ⟨Nat.le_refl _, Nat.le_refl _⟩) hC (fun M4 H locs eM4 hC => ?_)
        have hT : sp_X4_playFrame M = sp_X4_playFrame_n6 (sp_X4_playFrame_B2 n) x1 M4 := by rw [eM4]; exact hT
        have hV : vc_X4_playFrame_n6 (vc_X4_playFrame_B2 n) x1 M4 := by rw [eM4]; exact hV
        obtain ⟨x5, ex5⟩ : ∃ z : Int32, z = x1 + 1 := ⟨_, rfl⟩
        have hT : sp_X4_playFrame M = sp_X4_playFrame_n5 (sp_X4_playFrame_B2 n) M4 x5 := by rw [ex5]; exact hT
        have hV : vc_X4_playFrame_n5 (vc_X4_playFrame_B2 n) M4 x5 := by rw [ex5]; exact hV
        refine lv_iinc (v := x5) (lv' := [(2, .int x5), (0, .ref (ad 10)), (1, .ref (ad 1))]) hx hb dX4_playFrame_16 hl (k := 2) rfl (by rw [ex5]; rfl) (by decide) rfl (fun ls hl => ?_)
        refine lv_goto (tgt := 2) hx hb dX4_playFrame_19 (by decide) ?_
        exact ih x5 M4 _ _ _  hT hV hC (lv_sub hl [1, 2, 0] rfl)
  have hT : sp_X4_playFrame M = sp_X4_playFrame_B2 4 0 M := rfl
  have hV : vc_X4_playFrame_B2 4 0 M := hV
  refine lv_iconst (v := 0) hx hb dX4_playFrame_0 (by decide) ?_
  refine lv_istore_n (lv' := [(2, .int 0), (0, .ref (ad 10)), (1, .ref (ad 1))]) hx hb dX4_playFrame_1 rfl hl (by decide) rfl (fun ls hl => ?_)
  exact J2 4 0 M _ _ _  hT hV hC (lv_sub hl [1, 2, 0] rfl)
set_option maxHeartbeats 4000000 in
set_option maxRecDepth 100000 in
theorem c_X5_sample (l : Launch) (D : va_G) (cy ad : Nat → Nat) (L : List Nat) (sz : Nat) (hL : lr 10 14 L) (M : Mem) (h : Nat) (hh : isV h) (hV : vc_X5_sample M h) : Met l yX5_sample (Cond.code yX5_sample cX5_sample 1 (some .float) :: BG) ({ frames := 0, cells := 0, slots := 0, locals := 0 }) (va_Pc [.ref (ad h)] (PW D cy ad L M sz)) (va_Qf (fun r N => r = sp_X5_sample M h ∧ N = M) (OW D cy ad L sz) (fA ad L sz)) 0 0 (fA ad L sz) := by
  refine q_start (by decide) (Nat.le_of_ble_eq_true rfl) (fun p e s m below meth c H locs ls hsz hx hb hr hlocks hml hown hB hK hE hC hl => ?_)
  subst hsz
  have hown : s.vm.findClass "MazeBoard$Voice" = some m.cls := hown
  have hl : lv_has ls 1 [(0, .ref (ad h))] := hl
  have hT : sp_X5_sample M h = FP.fmul (FP.fsub (FP.i2f (((gI M h 0) >>> (8 &&& 31)) &&& 15)) 1089470464) (gF M h 2) := rfl
  have hV : (vf_n32 (FP.fsub (FP.i2f (((gI M h 0) >>> (8 &&& 31)) &&& 15)) 1089470464)) ∧ (vf_n32 (FP.fmul (FP.fsub (FP.i2f (((gI M h 0) >>> (8 &&& 31)) &&& 15)) 1089470464) (gF M h 2))) := hV
  refine lv_aload_n hx hb dX5_sample_0 rfl (lv_at hl 0 rfl) ?_
  refine q_geti (T := TX5) hx hb hB uw_X5 hown hK hC (isV.sh hh) (hL _ (Nat.le_trans (by decide) (hh).1) (Nat.le_trans (hh).2 (by decide))) rfl 0 (by decide) rfl (hB _ mw_1_203) dX5_sample_1 ?_
  refine lv_bipush (v := 8) hx hb dX5_sample_4 (by decide) ?_
  refine lv_ishr hx hb dX5_sample_6 ?_
  refine lv_bipush (v := 15) hx hb dX5_sample_7 (by decide) ?_
  refine lv_iand hx hb dX5_sample_9 ?_
  refine lv_i2f hx hb dX5_sample_10 ?_
  refine lv_ldcf (v := 1089470464) hx hb hown (hB _ mw_3_17) dX5_sample_11 ?_
  obtain ⟨w13, hV⟩ : (vf_n32 (FP.fsub (FP.i2f (((gI M h 0) >>> (8 &&& 31)) &&& 15)) 1089470464)) ∧ (vf_n32 (FP.fmul (FP.fsub (FP.i2f (((gI M h 0) >>> (8 &&& 31)) &&& 15)) 1089470464) (gF M h 2))) := hV
  refine lv_fsub hx hb dX5_sample_13 w13 ?_
  refine lv_aload_n hx hb dX5_sample_14 rfl (lv_at hl 0 rfl) ?_
  refine q_getf (T := TX5) hx hb hB uw_X5 hown hK hC (isV.sh hh) (hL _ (Nat.le_trans (by decide) (hh).1) (Nat.le_trans (hh).2 (by decide))) rfl 2 (by decide) rfl (hB _ mw_1_205) dX5_sample_15 ?_
  have w18 : vf_n32 (FP.fmul (FP.fsub (FP.i2f (((gI M h 0) >>> (8 &&& 31)) &&& 15)) 1089470464) (gF M h 2)) := hV
  refine lv_fmul hx hb dX5_sample_18 w18 ?_
  exact q_retf hx hb hr hlocks hC ⟨hT.symm, rfl⟩ dX5_sample_19
set_option maxHeartbeats 4000000 in
set_option maxRecDepth 100000 in
theorem c_X6_coin (l : Launch) (D : va_G) (cy ad : Nat → Nat) (L : List Nat) (sz : Nat) (hL : lr 0 14 L) (M : Mem)  : Met l yX6_coin (Cond.code yX6_coin cX6_coin 1 (some .boolean) :: BG) ({ frames := 0, cells := 0, slots := 0, locals := 0 }) (va_Pc [.ref (ad 0)] (PW D cy ad L M sz)) (va_Qi (fun r N => r = (sp_X6_coin M).1 ∧ N = (sp_X6_coin M).2) (OW D cy ad L sz) (fA ad L sz)) 0 0 (fA ad L sz) := by
  refine q_start (by decide) (Nat.le_of_ble_eq_true rfl) (fun p e s m below meth c H locs ls hsz hx hb hr hlocks hml hown hB hK hE hC hl => ?_)
  subst hsz
  have hown : s.vm.findClass "MazeBoard" = some m.cls := hown
  have hl : lv_has ls 1 [(0, .ref (ad 0))] := hl
  have hT : sp_X6_coin M = if (gI M 0 2) < 9 then (sp_X6_coin_n1 (wI M 0 2 ((gI M 0 2) + 1))) else (0, M) := rfl
  refine lv_aload_n hx hb dX6_coin_0 rfl (lv_at hl 0 rfl) ?_
  refine q_geti (T := TX6) hx hb hB uw_X6 hown hK hC rfl (hL 0 (by decide) (by decide)) rfl 2 (by decide) rfl (hB _ mw_1_221) dX6_coin_1 ?_
  refine lv_bipush (v := 9) hx hb dX6_coin_4 (by decide) ?_
  refine lv_icmp_lt (tgt := 11) hx hb dX6_coin_6 (by decide) (fun c6 => ?_) (fun c6 => ?_)
  · have hT : sp_X6_coin M = sp_X6_coin_n1 (wI M 0 2 ((gI M 0 2) + 1)) := hT.trans (if_pos c6)
    refine lv_aload_n hx hb dX6_coin_11 rfl (lv_at hl 0 rfl) ?_
    refine lv_dup hx hb dX6_coin_12 rfl ?_
    refine q_geti (T := TX6) hx hb hB uw_X6 hown hK hC rfl (hL 0 (by decide) (by decide)) rfl 2 (by decide) rfl (hB _ mw_1_221) dX6_coin_13 ?_
    refine lv_iconst (v := 1) hx hb dX6_coin_16 (by decide) ?_
    refine lv_iadd hx hb dX6_coin_17 ?_
    refine q_puti (T := TX6) hx hb hB uw_X6 tyX6 tyX6_ok nmX6 hown hK hC rfl (hL 0 (by decide) (by decide)) rfl 2 (by decide) rfl (hB _ mw_1_221) rfl rfl rfl rfl dX6_coin_18 (fun H locs hC => ?_)
    obtain ⟨M1, eM1⟩ : ∃ z : Mem, z = wI M 0 2 ((gI M 0 2) + 1) := ⟨_, rfl⟩
    rw [← eM1] at hC
    have hT : sp_X6_coin M = sp_X6_coin_n1 M1 := by rw [eM1]; exact hT
    refine lv_iconst (v := 1) hx hb dX6_coin_21 (by decide) ?_
    exact q_retz hx hb hr hlocks hC (by decide) ⟨(congrArg Prod.fst hT).symm, (congrArg Prod.snd hT).symm⟩ dX6_coin_22
  · have hT : sp_X6_coin M = (0, M) := hT.trans (if_neg c6)
    refine lv_iconst (v := 0) hx hb dX6_coin_9 (by decide) ?_
    exact q_retz hx hb hr hlocks hC (by decide) ⟨(congrArg Prod.fst hT).symm, (congrArg Prod.snd hT).symm⟩ dX6_coin_10
set_option maxHeartbeats 4000000 in
set_option maxRecDepth 100000 in
theorem c_X6_start (l : Launch) (D : va_G) (cy ad : Nat → Nat) (L : List Nat) (sz : Nat) (hL : lr 0 14 L) (M : Mem)  (hV : vc_X6_start M ) : Met l yX6_start (Cond.code yX6_start cX6_start 1 (some .boolean) :: BG) ({ frames := 4, cells := 0, slots := 0, locals := 84 }) (va_Pc [.ref (ad 0)] (PW D cy ad L M sz)) (va_Qi (fun r N => r = (sp_X6_start M).1 ∧ N = (sp_X6_start M).2) (OW D cy ad L sz) (fA ad L sz)) 0 0 (fA ad L sz) := by
  refine q_start (by decide) (Nat.le_of_ble_eq_true rfl) (fun p e s m below meth c H locs ls hsz hx hb hr hlocks hml hown hB hK hE hC hl => ?_)
  subst hsz
  have hown : s.vm.findClass "MazeBoard" = some m.cls := hown
  have hl : lv_has ls 1 [(0, .ref (ad 0))] := hl
  have J17 : ∀  (H : Heap) (locs : List Loc) (ls : Array Slot) (hT : sp_X6_start M = sp_X6_start_B17 M) (hC : Cx D cy ad R0 L (fA ad L s.heap.size) s M H locs) (hl : lv_has ls 1 []), W p l e ({ frames := 4, cells := 0, slots := 0, locals := 84 }) s m ([.ref (ad 0)] : List Value).toArray below meth c H locs 0 0 (MQ below (va_Qi (fun r N => r = (sp_X6_start M).1 ∧ N = (sp_X6_start M).2) (OW D cy ad L s.heap.size) (fA ad L s.heap.size)) ([.ref (ad 0)] : List Value).toArray s 0 0 (fA ad L s.heap.size)) (F0 m 17 ls []) := by
    intro  H locs ls  hT hC hl
    have hT : sp_X6_start M = (0, M) := hT
    refine lv_iconst (v := 0) hx hb dX6_start_17 (by decide) ?_
    exact q_retz hx hb hr hlocks hC (by decide) ⟨(congrArg Prod.fst hT).symm, (congrArg Prod.snd hT).symm⟩ dX6_start_18
  have hT : sp_X6_start M = if (gI M 0 2) = 0 then (sp_X6_start_B17 M) else (if (gI M 1 3) = 0 then (sp_X6_start_n2 (wI M 0 2 ((gI M 0 2) - 1))) else (sp_X6_start_B17 M)) := rfl
  have hV : if (gI M 0 2) = 0 then True else (if (gI M 1 3) = 0 then (vc_X6_start_n2 (wI M 0 2 ((gI M 0 2) - 1))) else True) := hV
  refine lv_aload_n hx hb dX6_start_0 rfl (lv_at hl 0 rfl) ?_
  refine q_geti (T := TX6) hx hb hB uw_X6 hown hK hC rfl (hL 0 (by decide) (by decide)) rfl 2 (by decide) rfl (hB _ mw_1_221) dX6_start_1 ?_
  refine lv_if_eq (tgt := 17) hx hb dX6_start_4 (by decide) (fun c4 => ?_) (fun c4 => ?_)
  · have hT : sp_X6_start M = sp_X6_start_B17 M := hT.trans (if_pos c4)
    exact J17  _ _ _  hT hC (lv_sub hl [] rfl)
  · have hT : sp_X6_start M = if (gI M 1 3) = 0 then (sp_X6_start_n2 (wI M 0 2 ((gI M 0 2) - 1))) else (sp_X6_start_B17 M) := hT.trans (if_neg c4)
    have hV : if (gI M 1 3) = 0 then (vc_X6_start_n2 (wI M 0 2 ((gI M 0 2) - 1))) else True := iteF hV c4
    refine lv_aload_n hx hb dX6_start_7 rfl (lv_at hl 0 rfl) ?_
    refine q_getr (T := TX6) hx hb hB uw_X6 hown hK hC rfl (hL 0 (by decide) (by decide)) rfl 0 (by decide) rfl rfl (hB _ mw_1_219) dX6_start_8 ?_
    refine q_geti (T := TX1) hx hb hB uw_X1 hown hK hC rfl (hL 1 (by decide) (by decide)) rfl 3 (by decide) rfl (hB _ mw_1_133) dX6_start_11 ?_
    refine lv_if_eq (tgt := 19) hx hb dX6_start_14 (by decide) (fun c14 => ?_) (fun c14 => ?_)
    · have hT : sp_X6_start M = sp_X6_start_n2 (wI M 0 2 ((gI M 0 2) - 1)) := hT.trans (if_pos c14)
      have hV : vc_X6_start_n2 (wI M 0 2 ((gI M 0 2) - 1)) := iteT hV c14
      refine lv_aload_n hx hb dX6_start_19 rfl (lv_at hl 0 rfl) ?_
      refine lv_dup hx hb dX6_start_20 rfl ?_
      refine q_geti (T := TX6) hx hb hB uw_X6 hown hK hC rfl (hL 0 (by decide) (by decide)) rfl 2 (by decide) rfl (hB _ mw_1_221) dX6_start_21 ?_
      refine lv_iconst (v := 1) hx hb dX6_start_24 (by decide) ?_
      refine lv_isub hx hb dX6_start_25 ?_
      refine q_puti (T := TX6) hx hb hB uw_X6 tyX6 tyX6_ok nmX6 hown hK hC rfl (hL 0 (by decide) (by decide)) rfl 2 (by decide) rfl (hB _ mw_1_221) rfl rfl rfl rfl dX6_start_26 (fun H locs hC => ?_)
      obtain ⟨M1, eM1⟩ : ∃ z : Mem, z = wI M 0 2 ((gI M 0 2) - 1) := ⟨_, rfl⟩
      rw [← eM1] at hC
      have hT : sp_X6_start M = sp_X6_start_n2 M1 := by rw [eM1]; exact hT
      have hV : vc_X6_start_n2 M1 := by rw [eM1]; exact hV
      refine lv_aload_n hx hb dX6_start_29 rfl (lv_at hl 0 rfl) ?_
      refine q_getr (T := TX6) hx hb hB uw_X6 hown hK hC rfl (hL 0 (by decide) (by decide)) rfl 0 (by decide) rfl rfl (hB _ mw_1_219) dX6_start_30 ?_
      have v33 : vc_X1_begin M1 := hV
      refine q_Cv (q_V (own := "MazeBoard") (y := yX1_begin) (As := []) (rest := []) ⟨hx, hb, hml, hown, hB⟩ hK hE hC (c_X1_begin l D cy ad L H.size (hL.sub (by decide) (by decide)) M1  v33) rfl (hL 1 (by decide) (by decide)) rfl mw_2_6 mw_2_7 mw_2_8 mw_1_2 mw_2_9 rfl yd_X1_begin ⟨rfl, rfl⟩ ⟨Nat.le_of_ble_eq_true rfl, Nat.le_of_ble_eq_true rfl⟩ rfl hl.1 rfl (Nat.le_of_ble_eq_true rfl) dX6_start_33 ⟨Nat.le_refl _, Nat.le_refl _⟩) hC (fun M2 H locs eM2 hC => ?_)
      have hT : sp_X6_start M = sp_X6_start_n1 M2 := by rw [eM2]; exact hT
      refine lv_iconst (v := 1) hx hb dX6_start_36 (by decide) ?_
      exact q_retz hx hb hr hlocks hC (by decide) ⟨(congrArg Prod.fst hT).symm, (congrArg Prod.snd hT).symm⟩ dX6_start_37
    · have hT : sp_X6_start M = sp_X6_start_B17 M := hT.trans (if_neg c14)
      exact J17  _ _ _  hT hC (lv_sub hl [] rfl)
set_option maxHeartbeats 4000000 in
set_option maxRecDepth 100000 in
theorem c_X6_stick (l : Launch) (D : va_G) (cy ad : Nat → Nat) (L : List Nat) (sz : Nat) (hL : lr 0 14 L) (M : Mem) (a1 : Int32) : Met l yX6_stick (Cond.code yX6_stick cX6_stick 2 (some .boolean) :: BG) ({ frames := 0, cells := 0, slots := 0, locals := 0 }) (va_Pc [.ref (ad 0), .int a1] (PW D cy ad L M sz)) (va_Qi (fun r N => r = (sp_X6_stick M a1).1 ∧ N = (sp_X6_stick M a1).2) (OW D cy ad L sz) (fA ad L sz)) 0 0 (fA ad L sz) := by
  refine q_start (by decide) (Nat.le_of_ble_eq_true rfl) (fun p e s m below meth c H locs ls hsz hx hb hr hlocks hml hown hB hK hE hC hl => ?_)
  subst hsz
  have hown : s.vm.findClass "MazeBoard" = some m.cls := hown
  have hl : lv_has ls 2 [(0, .ref (ad 0)), (1, .int a1)] := hl
  have J10 : ∀  (H : Heap) (locs : List Loc) (ls : Array Slot) (hT : sp_X6_stick M a1 = sp_X6_stick_B10 M) (hC : Cx D cy ad R0 L (fA ad L s.heap.size) s M H locs) (hl : lv_has ls 2 []), W p l e ({ frames := 0, cells := 0, slots := 0, locals := 0 }) s m ([.ref (ad 0), .int a1] : List Value).toArray below meth c H locs 0 0 (MQ below (va_Qi (fun r N => r = (sp_X6_stick M a1).1 ∧ N = (sp_X6_stick M a1).2) (OW D cy ad L s.heap.size) (fA ad L s.heap.size)) ([.ref (ad 0), .int a1] : List Value).toArray s 0 0 (fA ad L s.heap.size)) (F0 m 10 ls []) := by
    intro  H locs ls  hT hC hl
    have hT : sp_X6_stick M a1 = (0, M) := hT
    refine lv_iconst (v := 0) hx hb dX6_stick_10 (by decide) ?_
    exact q_retz hx hb hr hlocks hC (by decide) ⟨(congrArg Prod.fst hT).symm, (congrArg Prod.snd hT).symm⟩ dX6_stick_11
  have hT : sp_X6_stick M a1 = if a1 < (-1) then (sp_X6_stick_B10 M) else (if a1 < 4 then (sp_X6_stick_n1 (wI M 0 3 a1)) else (sp_X6_stick_B10 M)) := rfl
  refine lv_iload_n hx hb dX6_stick_0 rfl (lv_at hl 1 rfl) ?_
  refine lv_iconst (v := (-1)) hx hb dX6_stick_1 (by decide) ?_
  refine lv_icmp_lt (tgt := 10) hx hb dX6_stick_2 (by decide) (fun c2 => ?_) (fun c2 => ?_)
  · have hT : sp_X6_stick M a1 = sp_X6_stick_B10 M := hT.trans (if_pos c2)
    exact J10  _ _ _  hT hC (lv_sub hl [] rfl)
  · have hT : sp_X6_stick M a1 = if a1 < 4 then (sp_X6_stick_n1 (wI M 0 3 a1)) else (sp_X6_stick_B10 M) := hT.trans (if_neg c2)
    refine lv_iload_n hx hb dX6_stick_5 rfl (lv_at hl 1 rfl) ?_
    refine lv_iconst (v := 4) hx hb dX6_stick_6 (by decide) ?_
    refine lv_icmp_lt (tgt := 12) hx hb dX6_stick_7 (by decide) (fun c7 => ?_) (fun c7 => ?_)
    · have hT : sp_X6_stick M a1 = sp_X6_stick_n1 (wI M 0 3 a1) := hT.trans (if_pos c7)
      refine lv_aload_n hx hb dX6_stick_12 rfl (lv_at hl 0 rfl) ?_
      refine lv_iload_n hx hb dX6_stick_13 rfl (lv_at hl 1 rfl) ?_
      refine q_puti (T := TX6) hx hb hB uw_X6 tyX6 tyX6_ok nmX6 hown hK hC rfl (hL 0 (by decide) (by decide)) rfl 3 (by decide) rfl (hB _ mw_1_222) rfl rfl rfl rfl dX6_stick_14 (fun H locs hC => ?_)
      obtain ⟨M1, eM1⟩ : ∃ z : Mem, z = wI M 0 3 a1 := ⟨_, rfl⟩
      rw [← eM1] at hC
      have hT : sp_X6_stick M a1 = sp_X6_stick_n1 M1 := by rw [eM1]; exact hT
      refine lv_iconst (v := 1) hx hb dX6_stick_17 (by decide) ?_
      exact q_retz hx hb hr hlocks hC (by decide) ⟨(congrArg Prod.fst hT).symm, (congrArg Prod.snd hT).symm⟩ dX6_stick_18
    · have hT : sp_X6_stick M a1 = sp_X6_stick_B10 M := hT.trans (if_neg c7)
      exact J10  _ _ _  hT hC (lv_sub hl [] rfl)
set_option maxHeartbeats 4000000 in
set_option maxRecDepth 100000 in
theorem c_X6_kick (l : Launch) (D : va_G) (cy ad : Nat → Nat) (L : List Nat) (sz : Nat) (hL : lr 0 14 L) (M : Mem)  : Met l yX6_kick (Cond.code yX6_kick cX6_kick 1 (none) :: BG) ({ frames := 0, cells := 0, slots := 0, locals := 0 }) (va_Pc [.ref (ad 0)] (PW D cy ad L M sz)) (va_Qv (fun N => N = sp_X6_kick M) (OW D cy ad L sz) (fA ad L sz)) 0 0 (fA ad L sz) := by
  refine q_start (by decide) (Nat.le_of_ble_eq_true rfl) (fun p e s m below meth c H locs ls hsz hx hb hr hlocks hml hown hB hK hE hC hl => ?_)
  subst hsz
  have hown : s.vm.findClass "MazeBoard" = some m.cls := hown
  have hl : lv_has ls 1 [(0, .ref (ad 0))] := hl
  have hT : sp_X6_kick M = sp_X6_kick_n1 (wI M 0 4 0) := rfl
  refine lv_aload_n hx hb dX6_kick_0 rfl (lv_at hl 0 rfl) ?_
  refine lv_iconst (v := 0) hx hb dX6_kick_1 (by decide) ?_
  refine q_puti (T := TX6) hx hb hB uw_X6 tyX6 tyX6_ok nmX6 hown hK hC rfl (hL 0 (by decide) (by decide)) rfl 4 (by decide) rfl (hB _ mw_1_223) rfl rfl rfl rfl dX6_kick_2 (fun H locs hC => ?_)
  obtain ⟨M1, eM1⟩ : ∃ z : Mem, z = wI M 0 4 0 := ⟨_, rfl⟩
  rw [← eM1] at hC
  have hT : sp_X6_kick M = sp_X6_kick_n1 M1 := by rw [eM1]; exact hT
  exact q_retv hx hb hr hlocks hC hT.symm dX6_kick_5
set_option maxHeartbeats 4000000 in
set_option maxRecDepth 100000 in
theorem c_X6_reset (l : Launch) (D : va_G) (cy ad : Nat → Nat) (L : List Nat) (sz : Nat) (hL : lr 0 14 L) (M : Mem)  (hV : vc_X6_reset M ) : Met l yX6_reset (Cond.code yX6_reset cX6_reset 1 (none) :: BG) ({ frames := 4, cells := 0, slots := 0, locals := 84 }) (va_Pc [.ref (ad 0)] (PW D cy ad L M sz)) (va_Qv (fun N => N = sp_X6_reset M) (OW D cy ad L sz) (fA ad L sz)) 0 0 (fA ad L sz) := by
  refine q_start (by decide) (Nat.le_of_ble_eq_true rfl) (fun p e s m below meth c H locs ls hsz hx hb hr hlocks hml hown hB hK hE hC hl => ?_)
  subst hsz
  have hown : s.vm.findClass "MazeBoard" = some m.cls := hown
  have hl : lv_has ls 1 [(0, .ref (ad 0))] := hl
  have hT : sp_X6_reset M = sp_X6_reset_n5 (sp_X1_clear M) := rfl
  have hV : vc_X1_clear M ∧ (vc_X6_reset_n5 (sp_X1_clear M)) := hV
  refine lv_aload_n hx hb dX6_reset_0 rfl (lv_at hl 0 rfl) ?_
  refine q_getr (T := TX6) hx hb hB uw_X6 hown hK hC rfl (hL 0 (by decide) (by decide)) rfl 0 (by decide) rfl rfl (hB _ mw_1_219) dX6_reset_1 ?_
  obtain ⟨v4, hV⟩ : vc_X1_clear M ∧ (vc_X6_reset_n5 (sp_X1_clear M)) := hV
  refine q_Cv (q_V (own := "MazeBoard") (y := yX1_clear) (As := []) (rest := []) ⟨hx, hb, hml, hown, hB⟩ hK hE hC (c_X1_clear l D cy ad L H.size (hL.sub (by decide) (by decide)) M  v4) rfl (hL 1 (by decide) (by decide)) rfl mw_2_192 mw_1_106 mw_1_107 mw_1_2 mw_1_108 rfl yd_X1_clear ⟨rfl, rfl⟩ ⟨Nat.le_of_ble_eq_true rfl, Nat.le_of_ble_eq_true rfl⟩ rfl hl.1 rfl (Nat.le_of_ble_eq_true rfl) dX6_reset_4 ⟨Nat.le_refl _, Nat.le_refl _⟩) hC (fun M1 H locs eM1 hC => ?_)
  have hT : sp_X6_reset M = sp_X6_reset_n5 M1 := by rw [eM1]; exact hT
  have hV : vc_X6_reset_n5 M1 := by rw [eM1]; exact hV
  refine lv_aload_n hx hb dX6_reset_7 rfl (lv_at hl 0 rfl) ?_
  refine q_getr (T := TX6) hx hb hB uw_X6 hown hK hC rfl (hL 0 (by decide) (by decide)) rfl 1 (by decide) rfl rfl (hB _ mw_1_220) dX6_reset_8 ?_
  have v11 : vc_X4_silence M1 := hV
  refine q_Cv (q_V (own := "MazeBoard") (y := yX4_silence) (As := []) (rest := []) ⟨hx, hb, hml, hown, hB⟩ hK hE hC (c_X4_silence l D cy ad L H.size (hL.sub (by decide) (by decide)) M1  v11) rfl (hL 10 (by decide) (by decide)) rfl mw_2_193 mw_2_194 mw_2_195 mw_1_5 mw_2_196 rfl yd_X4_silence ⟨rfl, rfl⟩ ⟨Nat.le_of_ble_eq_true rfl, Nat.le_of_ble_eq_true rfl⟩ rfl hl.1 rfl (Nat.le_of_ble_eq_true rfl) dX6_reset_11 ⟨Nat.le_refl _, Nat.le_refl _⟩) hC (fun M2 H locs eM2 hC => ?_)
  have hT : sp_X6_reset M = sp_X6_reset_n4 M2 := by rw [eM2]; exact hT
  refine lv_aload_n hx hb dX6_reset_14 rfl (lv_at hl 0 rfl) ?_
  refine lv_iconst (v := 0) hx hb dX6_reset_15 (by decide) ?_
  refine q_puti (T := TX6) hx hb hB uw_X6 tyX6 tyX6_ok nmX6 hown hK hC rfl (hL 0 (by decide) (by decide)) rfl 2 (by decide) rfl (hB _ mw_1_221) rfl rfl rfl rfl dX6_reset_16 (fun H locs hC => ?_)
  obtain ⟨M3, eM3⟩ : ∃ z : Mem, z = wI M2 0 2 0 := ⟨_, rfl⟩
  rw [← eM3] at hC
  have hT : sp_X6_reset M = sp_X6_reset_n3 M3 := by rw [eM3]; exact hT
  refine lv_aload_n hx hb dX6_reset_19 rfl (lv_at hl 0 rfl) ?_
  refine lv_iconst (v := (-1)) hx hb dX6_reset_20 (by decide) ?_
  refine q_puti (T := TX6) hx hb hB uw_X6 tyX6 tyX6_ok nmX6 hown hK hC rfl (hL 0 (by decide) (by decide)) rfl 3 (by decide) rfl (hB _ mw_1_222) rfl rfl rfl rfl dX6_reset_21 (fun H locs hC => ?_)
  obtain ⟨M4, eM4⟩ : ∃ z : Mem, z = wI M3 0 3 (-1) := ⟨_, rfl⟩
  rw [← eM4] at hC
  have hT : sp_X6_reset M = sp_X6_reset_n2 M4 := by rw [eM4]; exact hT
  refine lv_aload_n hx hb dX6_reset_24 rfl (lv_at hl 0 rfl) ?_
  refine lv_iconst (v := 0) hx hb dX6_reset_25 (by decide) ?_
  refine q_puti (T := TX6) hx hb hB uw_X6 tyX6 tyX6_ok nmX6 hown hK hC rfl (hL 0 (by decide) (by decide)) rfl 4 (by decide) rfl (hB _ mw_1_223) rfl rfl rfl rfl dX6_reset_26 (fun H locs hC => ?_)
  obtain ⟨M5, eM5⟩ : ∃ z : Mem, z = wI M4 0 4 0 := ⟨_, rfl⟩
  rw [← eM5] at hC
  have hT : sp_X6_reset M = sp_X6_reset_n1 M5 := by rw [eM5]; exact hT
  exact q_retv hx hb hr hlocks hC hT.symm dX6_reset_29
set_option maxHeartbeats 4000000 in
set_option maxRecDepth 100000 in
theorem c_X6_frames (l : Launch) (D : va_G) (cy ad : Nat → Nat) (L : List Nat) (sz : Nat) (hL : lr 0 14 L) (M : Mem) (a1 : Int32) (hV : vc_X6_frames M a1) : Met l yX6_frames (Cond.code yX6_frames cX6_frames 3 (some .int) :: BG) ({ frames := 6, cells := 0, slots := 0, locals := 140 }) (va_Pc [.ref (ad 0), .int a1] (PW D cy ad L M sz)) (va_Qi (fun r N => r = (sp_X6_frames M a1).1 ∧ N = (sp_X6_frames M a1).2) (OW D cy ad L sz) (fA ad L sz)) 0 0 (fA ad L sz) := by
  refine q_start (by decide) (Nat.le_of_ble_eq_true rfl) (fun p e s m below meth c H locs ls hsz hx hb hr hlocks hml hown hB hK hE hC hl => ?_)
  subst hsz
  have hown : s.vm.findClass "MazeBoard" = some m.cls := hown
  have hl : lv_has ls 3 [(0, .ref (ad 0)), (1, .int a1)] := hl
  have J15 : ∀ (n : Nat) (x1 : Int32) (M2 : Mem) (H : Heap) (locs : List Loc) (ls : Array Slot) (hT : sp_X6_frames M a1 = sp_X6_frames_B15 n a1 x1 M2) (hV : vc_X6_frames_B15 n a1 x1 M2) (hC : Cx D cy ad R0 L (fA ad L s.heap.size) s M2 H locs) (hl : lv_has ls 3 [(0, .ref (ad 0)), (1, .int a1), (2, .int x1)]), W p l e ({ frames := 6, cells := 0, slots := 0, locals := 140 }) s m ([.ref (ad 0), .int a1] : List Value).toArray below meth c H locs 0 0 (MQ below (va_Qi (fun r N => r = (sp_X6_frames M a1).1 ∧ N = (sp_X6_frames M a1).2) (OW D cy ad L s.heap.size) (fA ad L s.heap.size)) ([.ref (ad 0), .int a1] : List Value).toArray s 0 0 (fA ad L s.heap.size)) (F0 m 15 ls []) := by
    intro n
    induction n with
    | zero => intro x1 M2 H locs ls  hT hV; exact hV.elim
    | succ n ih =>
      have J75 : ∀ (x1 : Int32) (M8 : Mem) (H : Heap) (locs : List Loc) (ls : Array Slot) (hT : sp_X6_frames M a1 = sp_X6_frames_B75 (sp_X6_frames_B15 n) a1 x1 M8) (hV : vc_X6_frames_B75 (vc_X6_frames_B15 n) a1 x1 M8) (hC : Cx D cy ad R0 L (fA ad L s.heap.size) s M8 H locs) (hl : lv_has ls 3 [(0, .ref (ad 0)), (1, .int a1), (2, .int x1)]), W p l e ({ frames := 6, cells := 0, slots := 0, locals := 140 }) s m ([.ref (ad 0), .int a1] : List Value).toArray below meth c H locs 0 0 (MQ below (va_Qi (fun r N => r = (sp_X6_frames M a1).1 ∧ N = (sp_X6_frames M a1).2) (OW D cy ad L s.heap.size) (fA ad L s.heap.size)) ([.ref (ad 0), .int a1] : List Value).toArray s 0 0 (fA ad L s.heap.size)) (F0 m 75 ls []) := by
        intro x1 M8 H locs ls  hT hV hC hl
        have hT : sp_X6_frames M a1 = sp_X6_frames_n1 (sp_X6_frames_B15 n) a1 M8 (x1 + 1) := hT
        have hV : vc_X6_frames_n1 (vc_X6_frames_B15 n) a1 M8 (x1 + 1) := hV
        obtain ⟨x9, ex9⟩ : ∃ z : Int32, z = x1 + 1 := ⟨_, rfl⟩
        have hT : sp_X6_frames M a1 = sp_X6_frames_n1 (sp_X6_frames_B15 n) a1 M8 x9 := by rw [ex9]; exact hT
        have hV : vc_X6_frames_n1 (vc_X6_frames_B15 n) a1 M8 x9 := by rw [ex9]; exact hV
        refine lv_iinc (v := x9) (lv' := [(2, .int x9), (0, .ref (ad 0)), (1, .int a1)]) hx hb dX6_frames_75 hl (k := 2) rfl (by rw [ex9]; rfl) (by decide) rfl (fun ls hl => ?_)
        refine lv_goto (tgt := 15) hx hb dX6_frames_78 (by decide) ?_
        exact ih x9 M8 _ _ _  hT hV hC (lv_sub hl [1, 2, 0] rfl)
      intro x1 M2 H locs ls  hT hV hC hl
      have hT : sp_X6_frames M a1 = if a1 ≤ x1 then (a1, M2) else (sp_X6_frames_n6 (sp_X6_frames_B15 n) a1 x1 (sp_X1_playFrame M2 (gI M2 0 3))) := hT
      have hV : if a1 ≤ x1 then True else ((vc_X1_playFrame M2 (gI M2 0 3)) ∧ (vc_X6_frames_n6 (vc_X6_frames_B15 n) a1 x1 (sp_X1_playFrame M2 (gI M2 0 3)))) := hV
      refine lv_iload_n hx hb dX6_frames_15 rfl (lv_at hl 2 rfl) ?_
      refine lv_iload_n hx hb dX6_frames_16 rfl (lv_at hl 1 rfl) ?_
      refine lv_icmp_ge (tgt := 81) hx hb dX6_frames_17 (by decide) (fun c17 => ?_) (fun c17 => ?_)
      · have hT : sp_X6_frames M a1 = (a1, M2) := hT.trans (if_pos c17)
        refine lv_iload_n hx hb dX6_frames_81 rfl (lv_at hl 1 rfl) ?_
        exact q_reti hx hb hr hlocks hC ⟨(congrArg Prod.fst hT).symm, (congrArg Prod.snd hT).symm⟩ dX6_frames_82
      · have hT : sp_X6_frames M a1 = sp_X6_frames_n6 (sp_X6_frames_B15 n) a1 x1 (sp_X1_playFrame M2 (gI M2 0 3)) := hT.trans (if_neg c17)
        have hV : (vc_X1_playFrame M2 (gI M2 0 3)) ∧ (vc_X6_frames_n6 (vc_X6_frames_B15 n) a1 x1 (sp_X1_playFrame M2 (gI M2 0 3))) := iteF hV c17
        refine lv_aload_n hx hb dX6_frames_20 rfl (lv_at hl 0 rfl) ?_
        refine q_getr (T := TX6) hx hb hB uw_X6 hown hK hC rfl (hL 0 (by decide) (by decide)) rfl 0 (by decide) rfl rfl (hB _ mw_1_219) dX6_frames_21 ?_
        refine lv_aload_n hx hb dX6_frames_24 rfl (lv_at hl 0 rfl) ?_
        refine q_geti (T := TX6) hx hb hB uw_X6 hown hK hC rfl (hL 0 (by decide) (by decide)) rfl 3 (by decide) rfl (hB _ mw_1_222) dX6_frames_25 ?_
        obtain ⟨v28, hV⟩ : (vc_X1_playFrame M2 (gI M2 0 3)) ∧ (vc_X6_frames_n6 (vc_X6_frames_B15 n) a1 x1 (sp_X1_playFrame M2 (gI M2 0 3))) := hV
        refine q_Cv (q_V (own := "MazeBoard") (y := yX1_playFrame) (As := [.int (gI M2 0 3)]) (rest := []) ⟨hx, hb, hml, hown, hB⟩ hK hE hC (c_X1_playFrame l D cy ad L H.size (hL.sub (by decide) (by decide)) M2 (gI M2 0 3) v28) rfl (hL 1 (by decide) (by decide)) rfl mw_2_22 mw_2_23 mw_2_24 mw_1_2 mw_2_25 rfl yd_X1_playFrame ⟨rfl, rfl⟩ ⟨Nat.le_of_ble_eq_true rfl, Nat.le_of_ble_eq_true rfl⟩ rfl hl.1 rfl (Nat.le_of_ble_eq_true rfl) dX6_frames_28 ⟨Nat.le_refl _, Nat.le_refl _⟩) hC (fun M3 H locs eM3 hC => ?_)
        have hT : sp_X6_frames M a1 = sp_X6_frames_n6 (sp_X6_frames_B15 n) a1 x1 M3 := by rw [eM3]; exact hT
        have hV : vc_X6_frames_n6 (vc_X6_frames_B15 n) a1 x1 M3 := by rw [eM3]; exact hV
        refine lv_aload_n hx hb dX6_frames_31 rfl (lv_at hl 0 rfl) ?_
        refine q_getr (T := TX6) hx hb hB uw_X6 hown hK hC rfl (hL 0 (by decide) (by decide)) rfl 1 (by decide) rfl rfl (hB _ mw_1_220) dX6_frames_32 ?_
        refine lv_aload_n hx hb dX6_frames_35 rfl (lv_at hl 0 rfl) ?_
        refine q_getr (T := TX6) hx hb hB uw_X6 hown hK hC rfl (hL 0 (by decide) (by decide)) rfl 0 (by decide) rfl rfl (hB _ mw_1_219) dX6_frames_36 ?_
        obtain ⟨v39, hV⟩ : vc_X4_playFrame M3 ∧ (vc_X6_frames_n5 (vc_X6_frames_B15 n) a1 x1 (sp_X4_playFrame M3)) := hV
        refine q_Cv (q_V (own := "MazeBoard") (y := yX4_playFrame) (As := [.ref (ad 1)]) (rest := []) ⟨hx, hb, hml, hown, hB⟩ hK hE hC (c_X4_playFrame l D cy ad L H.size (hL.sub (by decide) (by decide)) M3  v39) rfl (hL 10 (by decide) (by decide)) rfl mw_2_169 mw_2_170 mw_2_171 mw_1_5 mw_2_172 rfl yd_X4_playFrame ⟨rfl, rfl⟩ ⟨Nat.le_of_ble_eq_true rfl, Nat.le_of_ble_eq_true rfl⟩ rfl hl.1 rfl (Nat.le_of_ble_eq_true rfl) dX6_frames_39 ⟨Nat.le_refl _, Nat.le_refl _⟩) hC (fun M4 H locs eM4 hC => ?_)
        have hT : sp_X6_frames M a1 = sp_X6_frames_n5 (sp_X6_frames_B15 n) a1 x1 M4 := by rw [eM4]; exact hT
        have hV : vc_X6_frames_n5 (vc_X6_frames_B15 n) a1 x1 M4 := by rw [eM4]; exact hV
        refine lv_aload_n hx hb dX6_frames_42 rfl (lv_at hl 0 rfl) ?_
        refine lv_dup hx hb dX6_frames_43 rfl ?_
        refine q_geti (T := TX6) hx hb hB uw_X6 hown hK hC rfl (hL 0 (by decide) (by decide)) rfl 5 (by decide) rfl (hB _ mw_1_224) dX6_frames_44 ?_
        refine lv_iconst (v := 1) hx hb dX6_frames_47 (by decide) ?_
        refine lv_iadd hx hb dX6_frames_48 ?_
        refine q_puti (T := TX6) hx hb hB uw_X6 tyX6 tyX6_ok nmX6 hown hK hC rfl (hL 0 (by decide) (by decide)) rfl 5 (by decide) rfl (hB _ mw_1_224) rfl rfl rfl rfl dX6_frames_49 (fun H locs hC => ?_)
        obtain ⟨M5, eM5⟩ : ∃ z : Mem, z = wI M4 0 5 ((gI M4 0 5) + 1) := ⟨_, rfl⟩
        rw [← eM5] at hC
        have hT : sp_X6_frames M a1 = sp_X6_frames_n4 (sp_X6_frames_B15 n) a1 x1 M5 := by rw [eM5]; exact hT
        have hV : vc_X6_frames_n4 (vc_X6_frames_B15 n) a1 x1 M5 := by rw [eM5]; exact hV
        refine lv_aload_n hx hb dX6_frames_52 rfl (lv_at hl 0 rfl) ?_
        refine lv_dup hx hb dX6_frames_53 rfl ?_
        refine q_geti (T := TX6) hx hb hB uw_X6 hown hK hC rfl (hL 0 (by decide) (by decide)) rfl 4 (by decide) rfl (hB _ mw_1_223) dX6_frames_54 ?_
        refine lv_iconst (v := 1) hx hb dX6_frames_57 (by decide) ?_
        refine lv_iadd hx hb dX6_frames_58 ?_
        refine q_puti (T := TX6) hx hb hB uw_X6 tyX6 tyX6_ok nmX6 hown hK hC rfl (hL 0 (by decide) (by decide)) rfl 4 (by decide) rfl (hB _ mw_1_223) rfl rfl rfl rfl dX6_frames_59 (fun H locs hC => ?_)
        obtain ⟨M6, eM6⟩ : ∃ z : Mem, z = wI M5 0 4 ((gI M5 0 4) + 1) := ⟨_, rfl⟩
        rw [← eM6] at hC
        have hT : sp_X6_frames M a1 = sp_X6_frames_n3 (sp_X6_frames_B15 n) a1 x1 M6 := by rw [eM6]; exact hT
        have hV : vc_X6_frames_n3 (vc_X6_frames_B15 n) a1 x1 M6 := by rw [eM6]; exact hV
        refine lv_aload_n hx hb dX6_frames_62 rfl (lv_at hl 0 rfl) ?_
        refine q_geti (T := TX6) hx hb hB uw_X6 hown hK hC rfl (hL 0 (by decide) (by decide)) rfl 4 (by decide) rfl (hB _ mw_1_223) dX6_frames_63 ?_
        refine lv_bipush (v := 120) hx hb dX6_frames_66 (by decide) ?_
        refine lv_icmp_ne (tgt := 75) hx hb dX6_frames_68 (by decide) (fun c68 => ?_) (fun c68 => ?_)
        · have hT : sp_X6_frames M a1 = sp_X6_frames_B75 (sp_X6_frames_B15 n) a1 x1 M6 := hT.trans (if_neg c68)
          have hV : vc_X6_frames_B75 (vc_X6_frames_B15 n) a1 x1 M6 := iteF hV c68
          exact J75 x1 M6 _ _ _  hT hV hC (lv_sub hl [0, 1, 2] rfl)
        · have hT : sp_X6_frames M a1 = sp_X6_frames_n2 (sp_X6_frames_B15 n) a1 x1 (sp_X6_reset M6) := hT.trans (if_pos c68)
          have hV : vc_X6_reset M6 ∧ (vc_X6_frames_n2 (vc_X6_frames_B15 n) a1 x1 (sp_X6_reset M6)) := iteT hV c68
          refine lv_aload_n hx hb dX6_frames_71 rfl (lv_at hl 0 rfl) ?_
          obtain ⟨v72, hV⟩ : vc_X6_reset M6 ∧ (vc_X6_frames_n2 (vc_X6_frames_B15 n) a1 x1 (sp_X6_reset M6)) := hV
          refine q_Cv (q_V (own := "MazeBoard") (y := yX6_reset) (As := []) (rest := []) ⟨hx, hb, hml, hown, hB⟩ hK hE hC (c_X6_reset l D cy ad L H.size (hL.sub (by decide) (by decide)) M6  v72) rfl (hL 0 (by decide) (by decide)) rfl mw_2_188 mw_2_190 mw_0_21 mw_1_1 mw_2_191 rfl yd_X6_reset ⟨rfl, rfl⟩ ⟨Nat.le_of_ble_eq_true rfl, Nat.le_of_ble_eq_true rfl⟩ rfl hl.1 rfl (Nat.le_of_ble_eq_true rfl) dX6_frames_72 ⟨Nat.le_refl _, Nat.le_refl _⟩) hC (fun M7 H locs eM7 hC => ?_)
          have hT : sp_X6_frames M a1 = sp_X6_frames_n2 (sp_X6_frames_B15 n) a1 x1 M7 := by rw [eM7]; exact hT
          have hV : vc_X6_frames_n2 (vc_X6_frames_B15 n) a1 x1 M7 := by rw [eM7]; exact hV
          exact J75 x1 M7 _ _ _  hT hV hC (lv_sub hl [0, 1, 2] rfl)
  have J11 : ∀  (H : Heap) (locs : List Loc) (ls : Array Slot) (hT : sp_X6_frames M a1 = sp_X6_frames_B11 M) (hC : Cx D cy ad R0 L (fA ad L s.heap.size) s M H locs) (hl : lv_has ls 3 []), W p l e ({ frames := 6, cells := 0, slots := 0, locals := 140 }) s m ([.ref (ad 0), .int a1] : List Value).toArray below meth c H locs 0 0 (MQ below (va_Qi (fun r N => r = (sp_X6_frames M a1).1 ∧ N = (sp_X6_frames M a1).2) (OW D cy ad L s.heap.size) (fA ad L s.heap.size)) ([.ref (ad 0), .int a1] : List Value).toArray s 0 0 (fA ad L s.heap.size)) (F0 m 11 ls []) := by
    intro  H locs ls  hT hC hl
    have hT : sp_X6_frames M a1 = ((-1), M) := hT
    refine lv_iconst (v := (-1)) hx hb dX6_frames_11 (by decide) ?_
    exact q_reti hx hb hr hlocks hC ⟨(congrArg Prod.fst hT).symm, (congrArg Prod.snd hT).symm⟩ dX6_frames_12
  have hT : sp_X6_frames M a1 = if a1 < 1 then (sp_X6_frames_B11 M) else (if a1 ≤ 60 then (sp_X6_frames_B15 62 a1 0 M) else (sp_X6_frames_B11 M)) := rfl
  have hV : if a1 < 1 then True else (if a1 ≤ 60 then vc_X6_frames_B15 62 a1 0 M else True) := hV
  refine lv_iload_n hx hb dX6_frames_0 rfl (lv_at hl 1 rfl) ?_
  refine lv_iconst (v := 1) hx hb dX6_frames_1 (by decide) ?_
  refine lv_icmp_lt (tgt := 11) hx hb dX6_frames_2 (by decide) (fun c2 => ?_) (fun c2 => ?_)
  · have hT : sp_X6_frames M a1 = sp_X6_frames_B11 M := hT.trans (if_pos c2)
    exact J11  _ _ _  hT hC (lv_sub hl [] rfl)
  · have hT : sp_X6_frames M a1 = if a1 ≤ 60 then (sp_X6_frames_B15 62 a1 0 M) else (sp_X6_frames_B11 M) := hT.trans (if_neg c2)
    have hV : if a1 ≤ 60 then vc_X6_frames_B15 62 a1 0 M else True := iteF hV c2
    refine lv_iload_n hx hb dX6_frames_5 rfl (lv_at hl 1 rfl) ?_
    refine lv_bipush (v := 60) hx hb dX6_frames_6 (by decide) ?_
    refine lv_icmp_le (tgt := 13) hx hb dX6_frames_8 (by decide) (fun c8 => ?_) (fun c8 => ?_)
    · have hT : sp_X6_frames M a1 = sp_X6_frames_B15 62 a1 0 M := hT.trans (if_pos c8)
      have hV : vc_X6_frames_B15 62 a1 0 M := iteT hV c8
      refine lv_iconst (v := 0) hx hb dX6_frames_13 (by decide) ?_
      refine lv_istore_n (lv' := [(2, .int 0), (0, .ref (ad 0)), (1, .int a1)]) hx hb dX6_frames_14 rfl hl (by decide) rfl (fun ls hl => ?_)
      exact J15 62 0 M _ _ _  hT hV hC (lv_sub hl [1, 2, 0] rfl)
    · have hT : sp_X6_frames M a1 = sp_X6_frames_B11 M := hT.trans (if_neg c8)
      exact J11  _ _ _  hT hC (lv_sub hl [] rfl)
set_option maxHeartbeats 4000000 in
set_option maxRecDepth 100000 in
theorem c_X6_look (l : Launch) (D : va_G) (cy ad : Nat → Nat) (L : List Nat) (sz : Nat) (hL : lr 0 14 L) (M : Mem) (a1 : Int32) : Met l yX6_look (Cond.code yX6_look cX6_look 2 (some .int) :: BG) ({ frames := 0, cells := 0, slots := 0, locals := 0 }) (va_Pc [.ref (ad 0), .int a1] (PW D cy ad L M sz)) (va_Qi (fun r N => r = sp_X6_look M a1 ∧ N = M) (OW D cy ad L sz) (fA ad L sz)) 0 0 (fA ad L sz) := by
  refine q_start (by decide) (Nat.le_of_ble_eq_true rfl) (fun p e s m below meth c H locs ls hsz hx hb hr hlocks hml hown hB hK hE hC hl => ?_)
  subst hsz
  have hown : s.vm.findClass "MazeBoard" = some m.cls := hown
  have hl : lv_has ls 2 [(0, .ref (ad 0)), (1, .int a1)] := hl
  have J79 : ∀ (x1 : Int32) (H : Heap) (locs : List Loc) (ls : Array Slot) (hT : sp_X6_look M a1 = sp_X6_look_B79 x1) (hC : Cx D cy ad R0 L (fA ad L s.heap.size) s M H locs) (hl : lv_has ls 2 []), W p l e ({ frames := 0, cells := 0, slots := 0, locals := 0 }) s m ([.ref (ad 0), .int a1] : List Value).toArray below meth c H locs 0 0 (MQ below (va_Qi (fun r N => r = sp_X6_look M a1 ∧ N = M) (OW D cy ad L s.heap.size) (fA ad L s.heap.size)) ([.ref (ad 0), .int a1] : List Value).toArray s 0 0 (fA ad L s.heap.size)) (F0 m 79 ls [.int x1]) := by
    intro x1 H locs ls  hT hC hl
    have hT : sp_X6_look M a1 = x1 := hT
    exact q_reti hx hb hr hlocks hC ⟨hT.symm, rfl⟩ dX6_look_79
  have hT : sp_X6_look M a1 = if a1 = 0 then (if (gI M 1 3) = 0 then (sp_X6_look_B79 0) else (sp_X6_look_B79 1)) else if a1 = 1 then (gI M 1 4) else if a1 = 2 then (gI M 1 5) else if a1 = 3 then (gI M 1 6) else if a1 = 4 then (gI M 1 7) else if a1 = 5 then (gI M 0 2) else if a1 = 6 then (gI M 2 1) else if a1 = 7 then (gI M 1 10) else if a1 = 8 then (gI M 1 11) else if a1 = 9 then (gI M 1 8) else if a1 = 10 then (gI M 0 4) else if a1 = 11 then (gI M 0 5) else (-1) := rfl
  refine lv_iload_n hx hb dX6_look_0 rfl (lv_at hl 1 rfl) ?_
  by_cases c1_0 : a1 = 0
  · have hT : sp_X6_look M a1 = if (gI M 1 3) = 0 then (sp_X6_look_B79 0) else (sp_X6_look_B79 1) := hT.trans (if_pos c1_0)
    refine lv_tableIn (tgt := 64) hx hb dX6_look_1 (by rw [c1_0]; decide) (by rw [c1_0]; decide) (by rw [c1_0]; rfl) (by decide) ?_
    refine lv_aload_n hx hb dX6_look_64 rfl (lv_at hl 0 rfl) ?_
    refine q_getr (T := TX6) hx hb hB uw_X6 hown hK hC rfl (hL 0 (by decide) (by decide)) rfl 0 (by decide) rfl rfl (hB _ mw_1_219) dX6_look_65 ?_
    refine q_geti (T := TX1) hx hb hB uw_X1 hown hK hC rfl (hL 1 (by decide) (by decide)) rfl 3 (by decide) rfl (hB _ mw_1_133) dX6_look_68 ?_
    refine lv_if_eq (tgt := 78) hx hb dX6_look_71 (by decide) (fun c71 => ?_) (fun c71 => ?_)
    · have hT : sp_X6_look M a1 = sp_X6_look_B79 0 := hT.trans (if_pos c71)
      refine lv_iconst (v := 0) hx hb dX6_look_78 (by decide) ?_
      exact J79 0 _ _ _  hT hC (lv_sub hl [] rfl)
    · have hT : sp_X6_look M a1 = sp_X6_look_B79 1 := hT.trans (if_neg c71)
      refine lv_iconst (v := 1) hx hb dX6_look_74 (by decide) ?_
      refine lv_goto (tgt := 79) hx hb dX6_look_75 (by decide) ?_
      exact J79 1 _ _ _  hT hC (lv_sub hl [] rfl)
  replace hT := hT.trans (if_neg c1_0)
  by_cases c1_1 : a1 = 1
  · have hT : sp_X6_look M a1 = gI M 1 4 := hT.trans (if_pos c1_1)
    refine lv_tableIn (tgt := 80) hx hb dX6_look_1 (by rw [c1_1]; decide) (by rw [c1_1]; decide) (by rw [c1_1]; rfl) (by decide) ?_
    refine lv_aload_n hx hb dX6_look_80 rfl (lv_at hl 0 rfl) ?_
    refine q_getr (T := TX6) hx hb hB uw_X6 hown hK hC rfl (hL 0 (by decide) (by decide)) rfl 0 (by decide) rfl rfl (hB _ mw_1_219) dX6_look_81 ?_
    refine q_geti (T := TX1) hx hb hB uw_X1 hown hK hC rfl (hL 1 (by decide) (by decide)) rfl 4 (by decide) rfl (hB _ mw_1_136) dX6_look_84 ?_
    exact q_reti hx hb hr hlocks hC ⟨hT.symm, rfl⟩ dX6_look_87
  replace hT := hT.trans (if_neg c1_1)
  by_cases c1_2 : a1 = 2
  · have hT : sp_X6_look M a1 = gI M 1 5 := hT.trans (if_pos c1_2)
    refine lv_tableIn (tgt := 88) hx hb dX6_look_1 (by rw [c1_2]; decide) (by rw [c1_2]; decide) (by rw [c1_2]; rfl) (by decide) ?_
    refine lv_aload_n hx hb dX6_look_88 rfl (lv_at hl 0 rfl) ?_
    refine q_getr (T := TX6) hx hb hB uw_X6 hown hK hC rfl (hL 0 (by decide) (by decide)) rfl 0 (by decide) rfl rfl (hB _ mw_1_219) dX6_look_89 ?_
    refine q_geti (T := TX1) hx hb hB uw_X1 hown hK hC rfl (hL 1 (by decide) (by decide)) rfl 5 (by decide) rfl (hB _ mw_1_137) dX6_look_92 ?_
    exact q_reti hx hb hr hlocks hC ⟨hT.symm, rfl⟩ dX6_look_95
  replace hT := hT.trans (if_neg c1_2)
  by_cases c1_3 : a1 = 3
  · have hT : sp_X6_look M a1 = gI M 1 6 := hT.trans (if_pos c1_3)
    refine lv_tableIn (tgt := 96) hx hb dX6_look_1 (by rw [c1_3]; decide) (by rw [c1_3]; decide) (by rw [c1_3]; rfl) (by decide) ?_
    refine lv_aload_n hx hb dX6_look_96 rfl (lv_at hl 0 rfl) ?_
    refine q_getr (T := TX6) hx hb hB uw_X6 hown hK hC rfl (hL 0 (by decide) (by decide)) rfl 0 (by decide) rfl rfl (hB _ mw_1_219) dX6_look_97 ?_
    refine q_geti (T := TX1) hx hb hB uw_X1 hown hK hC rfl (hL 1 (by decide) (by decide)) rfl 6 (by decide) rfl (hB _ mw_1_140) dX6_look_100 ?_
    exact q_reti hx hb hr hlocks hC ⟨hT.symm, rfl⟩ dX6_look_103
  replace hT := hT.trans (if_neg c1_3)
  by_cases c1_4 : a1 = 4
  · have hT : sp_X6_look M a1 = gI M 1 7 := hT.trans (if_pos c1_4)
    refine lv_tableIn (tgt := 104) hx hb dX6_look_1 (by rw [c1_4]; decide) (by rw [c1_4]; decide) (by rw [c1_4]; rfl) (by decide) ?_
    refine lv_aload_n hx hb dX6_look_104 rfl (lv_at hl 0 rfl) ?_
    refine q_getr (T := TX6) hx hb hB uw_X6 hown hK hC rfl (hL 0 (by decide) (by decide)) rfl 0 (by decide) rfl rfl (hB _ mw_1_219) dX6_look_105 ?_
    refine q_geti (T := TX1) hx hb hB uw_X1 hown hK hC rfl (hL 1 (by decide) (by decide)) rfl 7 (by decide) rfl (hB _ mw_1_142) dX6_look_108 ?_
    exact q_reti hx hb hr hlocks hC ⟨hT.symm, rfl⟩ dX6_look_111
  replace hT := hT.trans (if_neg c1_4)
  by_cases c1_5 : a1 = 5
  · have hT : sp_X6_look M a1 = gI M 0 2 := hT.trans (if_pos c1_5)
    refine lv_tableIn (tgt := 112) hx hb dX6_look_1 (by rw [c1_5]; decide) (by rw [c1_5]; decide) (by rw [c1_5]; rfl) (by decide) ?_
    refine lv_aload_n hx hb dX6_look_112 rfl (lv_at hl 0 rfl) ?_
    refine q_geti (T := TX6) hx hb hB uw_X6 hown hK hC rfl (hL 0 (by decide) (by decide)) rfl 2 (by decide) rfl (hB _ mw_1_221) dX6_look_113 ?_
    exact q_reti hx hb hr hlocks hC ⟨hT.symm, rfl⟩ dX6_look_116
  replace hT := hT.trans (if_neg c1_5)
  by_cases c1_6 : a1 = 6
  · have hT : sp_X6_look M a1 = gI M 2 1 := hT.trans (if_pos c1_6)
    refine lv_tableIn (tgt := 117) hx hb dX6_look_1 (by rw [c1_6]; decide) (by rw [c1_6]; decide) (by rw [c1_6]; rfl) (by decide) ?_
    refine lv_aload_n hx hb dX6_look_117 rfl (lv_at hl 0 rfl) ?_
    refine q_getr (T := TX6) hx hb hB uw_X6 hown hK hC rfl (hL 0 (by decide) (by decide)) rfl 0 (by decide) rfl rfl (hB _ mw_1_219) dX6_look_118 ?_
    refine q_getr (T := TX1) hx hb hB uw_X1 hown hK hC rfl (hL 1 (by decide) (by decide)) rfl 0 (by decide) rfl rfl (hB _ mw_1_128) dX6_look_121 ?_
    refine q_geti (T := TX2) hx hb hB uw_X2 hown hK hC rfl (hL 2 (by decide) (by decide)) rfl 1 (by decide) rfl (hB _ mw_1_33) dX6_look_124 ?_
    exact q_reti hx hb hr hlocks hC ⟨hT.symm, rfl⟩ dX6_look_127
  replace hT := hT.trans (if_neg c1_6)
  by_cases c1_7 : a1 = 7
  · have hT : sp_X6_look M a1 = gI M 1 10 := hT.trans (if_pos c1_7)
    refine lv_tableIn (tgt := 128) hx hb dX6_look_1 (by rw [c1_7]; decide) (by rw [c1_7]; decide) (by rw [c1_7]; rfl) (by decide) ?_
    refine lv_aload_n hx hb dX6_look_128 rfl (lv_at hl 0 rfl) ?_
    refine q_getr (T := TX6) hx hb hB uw_X6 hown hK hC rfl (hL 0 (by decide) (by decide)) rfl 0 (by decide) rfl rfl (hB _ mw_1_219) dX6_look_129 ?_
    refine q_geti (T := TX1) hx hb hB uw_X1 hown hK hC rfl (hL 1 (by decide) (by decide)) rfl 10 (by decide) rfl (hB _ mw_1_147) dX6_look_132 ?_
    exact q_reti hx hb hr hlocks hC ⟨hT.symm, rfl⟩ dX6_look_135
  replace hT := hT.trans (if_neg c1_7)
  by_cases c1_8 : a1 = 8
  · have hT : sp_X6_look M a1 = gI M 1 11 := hT.trans (if_pos c1_8)
    refine lv_tableIn (tgt := 136) hx hb dX6_look_1 (by rw [c1_8]; decide) (by rw [c1_8]; decide) (by rw [c1_8]; rfl) (by decide) ?_
    refine lv_aload_n hx hb dX6_look_136 rfl (lv_at hl 0 rfl) ?_
    refine q_getr (T := TX6) hx hb hB uw_X6 hown hK hC rfl (hL 0 (by decide) (by decide)) rfl 0 (by decide) rfl rfl (hB _ mw_1_219) dX6_look_137 ?_
    refine q_geti (T := TX1) hx hb hB uw_X1 hown hK hC rfl (hL 1 (by decide) (by decide)) rfl 11 (by decide) rfl (hB _ mw_1_149) dX6_look_140 ?_
    exact q_reti hx hb hr hlocks hC ⟨hT.symm, rfl⟩ dX6_look_143
  replace hT := hT.trans (if_neg c1_8)
  by_cases c1_9 : a1 = 9
  · have hT : sp_X6_look M a1 = gI M 1 8 := hT.trans (if_pos c1_9)
    refine lv_tableIn (tgt := 144) hx hb dX6_look_1 (by rw [c1_9]; decide) (by rw [c1_9]; decide) (by rw [c1_9]; rfl) (by decide) ?_
    refine lv_aload_n hx hb dX6_look_144 rfl (lv_at hl 0 rfl) ?_
    refine q_getr (T := TX6) hx hb hB uw_X6 hown hK hC rfl (hL 0 (by decide) (by decide)) rfl 0 (by decide) rfl rfl (hB _ mw_1_219) dX6_look_145 ?_
    refine q_geti (T := TX1) hx hb hB uw_X1 hown hK hC rfl (hL 1 (by decide) (by decide)) rfl 8 (by decide) rfl (hB _ mw_1_144) dX6_look_148 ?_
    exact q_reti hx hb hr hlocks hC ⟨hT.symm, rfl⟩ dX6_look_151
  replace hT := hT.trans (if_neg c1_9)
  by_cases c1_10 : a1 = 10
  · have hT : sp_X6_look M a1 = gI M 0 4 := hT.trans (if_pos c1_10)
    refine lv_tableIn (tgt := 152) hx hb dX6_look_1 (by rw [c1_10]; decide) (by rw [c1_10]; decide) (by rw [c1_10]; rfl) (by decide) ?_
    refine lv_aload_n hx hb dX6_look_152 rfl (lv_at hl 0 rfl) ?_
    refine q_geti (T := TX6) hx hb hB uw_X6 hown hK hC rfl (hL 0 (by decide) (by decide)) rfl 4 (by decide) rfl (hB _ mw_1_223) dX6_look_153 ?_
    exact q_reti hx hb hr hlocks hC ⟨hT.symm, rfl⟩ dX6_look_156
  replace hT := hT.trans (if_neg c1_10)
  by_cases c1_11 : a1 = 11
  · have hT : sp_X6_look M a1 = gI M 0 5 := hT.trans (if_pos c1_11)
    refine lv_tableIn (tgt := 157) hx hb dX6_look_1 (by rw [c1_11]; decide) (by rw [c1_11]; decide) (by rw [c1_11]; rfl) (by decide) ?_
    refine lv_aload_n hx hb dX6_look_157 rfl (lv_at hl 0 rfl) ?_
    refine q_geti (T := TX6) hx hb hB uw_X6 hown hK hC rfl (hL 0 (by decide) (by decide)) rfl 5 (by decide) rfl (hB _ mw_1_224) dX6_look_158 ?_
    exact q_reti hx hb hr hlocks hC ⟨hT.symm, rfl⟩ dX6_look_161
  replace hT := hT.trans (if_neg c1_11)
  have hT : sp_X6_look M a1 = (-1) := hT
  refine lv_tableOut (tgt := 162) hx hb dX6_look_1 (by have u0 : a1.toInt ≠ 0 := fun z => c1_0 (Int32.toInt_inj.mp (by rw [z]; rfl)); have u1 : a1.toInt ≠ 1 := fun z => c1_1 (Int32.toInt_inj.mp (by rw [z]; rfl)); have u2 : a1.toInt ≠ 2 := fun z => c1_2 (Int32.toInt_inj.mp (by rw [z]; rfl)); have u3 : a1.toInt ≠ 3 := fun z => c1_3 (Int32.toInt_inj.mp (by rw [z]; rfl)); have u4 : a1.toInt ≠ 4 := fun z => c1_4 (Int32.toInt_inj.mp (by rw [z]; rfl)); have u5 : a1.toInt ≠ 5 := fun z => c1_5 (Int32.toInt_inj.mp (by rw [z]; rfl)); have u6 : a1.toInt ≠ 6 := fun z => c1_6 (Int32.toInt_inj.mp (by rw [z]; rfl)); have u7 : a1.toInt ≠ 7 := fun z => c1_7 (Int32.toInt_inj.mp (by rw [z]; rfl)); have u8 : a1.toInt ≠ 8 := fun z => c1_8 (Int32.toInt_inj.mp (by rw [z]; rfl)); have u9 : a1.toInt ≠ 9 := fun z => c1_9 (Int32.toInt_inj.mp (by rw [z]; rfl)); have u10 : a1.toInt ≠ 10 := fun z => c1_10 (Int32.toInt_inj.mp (by rw [z]; rfl)); have u11 : a1.toInt ≠ 11 := fun z => c1_11 (Int32.toInt_inj.mp (by rw [z]; rfl)); omega) (by decide) ?_
  refine lv_iconst (v := (-1)) hx hb dX6_look_162 (by decide) ?_
  exact q_reti hx hb hr hlocks hC ⟨hT.symm, rfl⟩ dX6_look_163
set_option maxHeartbeats 4000000 in
set_option maxRecDepth 100000 in
theorem c_X6_actor (l : Launch) (D : va_G) (cy ad : Nat → Nat) (L : List Nat) (sz : Nat) (hL : lr 0 14 L) (M : Mem) (a1 : Int32) (a2 : Int32) (hV : vc_X6_actor M a1 a2) : Met l yX6_actor (Cond.code yX6_actor cX6_actor 4 (some .int) :: BG) ({ frames := 0, cells := 0, slots := 0, locals := 0 }) (va_Pc [.ref (ad 0), .int a1, .int a2] (PW D cy ad L M sz)) (va_Qi (fun r N => r = sp_X6_actor M a1 a2 ∧ N = M) (OW D cy ad L sz) (fA ad L sz)) 0 0 (fA ad L sz) := by
  refine q_start (by decide) (Nat.le_of_ble_eq_true rfl) (fun p e s m below meth c H locs ls hsz hx hb hr hlocks hml hown hB hK hE hC hl => ?_)
  subst hsz
  have hown : s.vm.findClass "MazeBoard" = some m.cls := hown
  have hl : lv_has ls 4 [(0, .ref (ad 0)), (1, .int a1), (2, .int a2)] := hl
  have J105 : ∀ (x2 : Int32) (H : Heap) (locs : List Loc) (ls : Array Slot) (hT : sp_X6_actor M a1 a2 = sp_X6_actor_B105 x2) (hC : Cx D cy ad R0 L (fA ad L s.heap.size) s M H locs) (hl : lv_has ls 4 []), W p l e ({ frames := 0, cells := 0, slots := 0, locals := 0 }) s m ([.ref (ad 0), .int a1, .int a2] : List Value).toArray below meth c H locs 0 0 (MQ below (va_Qi (fun r N => r = sp_X6_actor M a1 a2 ∧ N = M) (OW D cy ad L s.heap.size) (fA ad L s.heap.size)) ([.ref (ad 0), .int a1, .int a2] : List Value).toArray s 0 0 (fA ad L s.heap.size)) (F0 m 105 ls [.int x2]) := by
    intro x2 H locs ls  hT hC hl
    have hT : sp_X6_actor M a1 a2 = x2 := hT
    exact q_reti hx hb hr hlocks hC ⟨hT.symm, rfl⟩ dX6_actor_105
  have J87 : ∀ (x1 : Int32) (H : Heap) (locs : List Loc) (ls : Array Slot) (hT : sp_X6_actor M a1 a2 = sp_X6_actor_B87 x1) (hC : Cx D cy ad R0 L (fA ad L s.heap.size) s M H locs) (hl : lv_has ls 4 []), W p l e ({ frames := 0, cells := 0, slots := 0, locals := 0 }) s m ([.ref (ad 0), .int a1, .int a2] : List Value).toArray below meth c H locs 0 0 (MQ below (va_Qi (fun r N => r = sp_X6_actor M a1 a2 ∧ N = M) (OW D cy ad L s.heap.size) (fA ad L s.heap.size)) ([.ref (ad 0), .int a1, .int a2] : List Value).toArray s 0 0 (fA ad L s.heap.size)) (F0 m 87 ls [.int x1]) := by
    intro x1 H locs ls  hT hC hl
    have hT : sp_X6_actor M a1 a2 = x1 := hT
    exact q_reti hx hb hr hlocks hC ⟨hT.symm, rfl⟩ dX6_actor_87
  have J9 : ∀  (H : Heap) (locs : List Loc) (ls : Array Slot) (hT : sp_X6_actor M a1 a2 = sp_X6_actor_B9 ) (hC : Cx D cy ad R0 L (fA ad L s.heap.size) s M H locs) (hl : lv_has ls 4 []), W p l e ({ frames := 0, cells := 0, slots := 0, locals := 0 }) s m ([.ref (ad 0), .int a1, .int a2] : List Value).toArray below meth c H locs 0 0 (MQ below (va_Qi (fun r N => r = sp_X6_actor M a1 a2 ∧ N = M) (OW D cy ad L s.heap.size) (fA ad L s.heap.size)) ([.ref (ad 0), .int a1, .int a2] : List Value).toArray s 0 0 (fA ad L s.heap.size)) (F0 m 9 ls []) := by
    intro  H locs ls  hT hC hl
    have hT : sp_X6_actor M a1 a2 = (-1) := hT
    refine lv_iconst (v := (-1)) hx hb dX6_actor_9 (by decide) ?_
    exact q_reti hx hb hr hlocks hC ⟨hT.symm, rfl⟩ dX6_actor_10
  have hT : sp_X6_actor M a1 a2 = if a1 < 0 then sp_X6_actor_B9 else (if a1 < 5 then (if a2 = 0 then (gI M (5 + a1.toNatClampNeg) 0) else if a2 = 1 then (gI M (5 + a1.toNatClampNeg) 1) else if a2 = 2 then (gI M (5 + a1.toNatClampNeg) 2) else if a2 = 3 then (if (gI M (5 + a1.toNatClampNeg) 4) = 0 then (sp_X6_actor_B87 0) else (sp_X6_actor_B87 1)) else if a2 = 4 then (gI M (5 + a1.toNatClampNeg) 6) else if a2 = 5 then (if (gI M (5 + a1.toNatClampNeg) 5) = 0 then (sp_X6_actor_B105 0) else (sp_X6_actor_B105 1)) else (-1)) else sp_X6_actor_B9) := rfl
  have hV : if a1 < 0 then True else (if a1 < 5 then vp_in a1 5 else True) := hV
  refine lv_iload_n hx hb dX6_actor_0 rfl (lv_at hl 1 rfl) ?_
  refine lv_if_lt (tgt := 9) hx hb dX6_actor_1 (by decide) (fun c1 => ?_) (fun c1 => ?_)
  · have hT : sp_X6_actor M a1 a2 = sp_X6_actor_B9 := hT.trans (if_pos c1)
    exact J9  _ _ _  hT hC (lv_sub hl [] rfl)
  · have hT : sp_X6_actor M a1 a2 = if a1 < 5 then (if a2 = 0 then (gI M (5 + a1.toNatClampNeg) 0) else if a2 = 1 then (gI M (5 + a1.toNatClampNeg) 1) else if a2 = 2 then (gI M (5 + a1.toNatClampNeg) 2) else if a2 = 3 then (if (gI M (5 + a1.toNatClampNeg) 4) = 0 then (sp_X6_actor_B87 0) else (sp_X6_actor_B87 1)) else if a2 = 4 then (gI M (5 + a1.toNatClampNeg) 6) else if a2 = 5 then (if (gI M (5 + a1.toNatClampNeg) 5) = 0 then (sp_X6_actor_B105 0) else (sp_X6_actor_B105 1)) else (-1)) else sp_X6_actor_B9 := hT.trans (if_neg c1)
    have hV : if a1 < 5 then vp_in a1 5 else True := iteF hV c1
    refine lv_iload_n hx hb dX6_actor_4 rfl (lv_at hl 1 rfl) ?_
    refine lv_iconst (v := 5) hx hb dX6_actor_5 (by decide) ?_
    refine lv_icmp_lt (tgt := 11) hx hb dX6_actor_6 (by decide) (fun c6 => ?_) (fun c6 => ?_)
    · have hT : sp_X6_actor M a1 a2 = if a2 = 0 then (gI M (5 + a1.toNatClampNeg) 0) else if a2 = 1 then (gI M (5 + a1.toNatClampNeg) 1) else if a2 = 2 then (gI M (5 + a1.toNatClampNeg) 2) else if a2 = 3 then (if (gI M (5 + a1.toNatClampNeg) 4) = 0 then (sp_X6_actor_B87 0) else (sp_X6_actor_B87 1)) else if a2 = 4 then (gI M (5 + a1.toNatClampNeg) 6) else if a2 = 5 then (if (gI M (5 + a1.toNatClampNeg) 5) = 0 then (sp_X6_actor_B105 0) else (sp_X6_actor_B105 1)) else (-1) := hT.trans (if_pos c6)
      have hV : vp_in a1 5 := iteT hV c6
      refine lv_aload_n hx hb dX6_actor_11 rfl (lv_at hl 0 rfl) ?_
      refine q_getr (T := TX6) hx hb hB uw_X6 hown hK hC rfl (hL 0 (by decide) (by decide)) rfl 0 (by decide) rfl rfl (hB _ mw_1_219) dX6_actor_12 ?_
      refine q_getr (T := TX1) hx hb hB uw_X1 hown hK hC rfl (hL 1 (by decide) (by decide)) rfl 1 (by decide) rfl rfl (hB _ mw_1_130) dX6_actor_15 ?_
      refine lv_iload_n hx hb dX6_actor_18 rfl (lv_at hl 1 rfl) ?_
      have w19 : vp_in a1 5 := hV
      refine q_aald hx hb hK hC rfl (hL 4 (by decide) (by decide)) rfl w19 rfl dX6_actor_19 ?_
      refine lv_astore_n (lv' := [(3, .ref (ad (5 + a1.toNatClampNeg))), (0, .ref (ad 0)), (1, .int a1), (2, .int a2)]) hx hb dX6_actor_20 rfl hl (by decide) rfl (fun ls hl => ?_)
      refine lv_iload_n hx hb dX6_actor_21 rfl (lv_at hl 3 rfl) ?_
      by_cases c22_0 : a2 = 0
      · have hT : sp_X6_actor M a1 a2 = gI M (5 + a1.toNatClampNeg) 0 := hT.trans (if_pos c22_0)
        refine lv_tableIn (tgt := 60) hx hb dX6_actor_22 (by rw [c22_0]; decide) (by rw [c22_0]; decide) (by rw [c22_0]; rfl) (by decide) ?_
        refine lv_aload_n hx hb dX6_actor_60 rfl (lv_at hl 0 rfl) ?_
        refine q_geti (T := TX0) hx hb hB uw_X0 hown hK hC (isA.sh (isA.of w19)) (hL _ (Nat.le_trans (by decide) ((isA.of w19)).1) (Nat.le_trans ((isA.of w19)).2 (by decide))) rfl 0 (by decide) rfl (hB _ mw_1_50) dX6_actor_61 ?_
        exact q_reti hx hb hr hlocks hC ⟨hT.symm, rfl⟩ dX6_actor_64
      replace hT := hT.trans (if_neg c22_0)
      by_cases c22_1 : a2 = 1
      · have hT : sp_X6_actor M a1 a2 = gI M (5 + a1.toNatClampNeg) 1 := hT.trans (if_pos c22_1)
        refine lv_tableIn (tgt := 65) hx hb dX6_actor_22 (by rw [c22_1]; decide) (by rw [c22_1]; decide) (by rw [c22_1]; rfl) (by decide) ?_
        refine lv_aload_n hx hb dX6_actor_65 rfl (lv_at hl 0 rfl) ?_
        refine q_geti (T := TX0) hx hb hB uw_X0 hown hK hC (isA.sh (isA.of w19)) (hL _ (Nat.le_trans (by decide) ((isA.of w19)).1) (Nat.le_trans ((isA.of w19)).2 (by decide))) rfl 1 (by decide) rfl (hB _ mw_1_55) dX6_actor_66 ?_
        exact q_reti hx hb hr hlocks hC ⟨hT.symm, rfl⟩ dX6_actor_69
      replace hT := hT.trans (if_neg c22_1)
      by_cases c22_2 : a2 = 2
      · have hT : sp_X6_actor M a1 a2 = gI M (5 + a1.toNatClampNeg) 2 := hT.trans (if_pos c22_2)
        refine lv_tableIn (tgt := 70) hx hb dX6_actor_22 (by rw [c22_2]; decide) (by rw [c22_2]; decide) (by rw [c22_2]; rfl) (by decide) ?_
        refine lv_aload_n hx hb dX6_actor_70 rfl (lv_at hl 0 rfl) ?_
        refine q_geti (T := TX0) hx hb hB uw_X0 hown hK hC (isA.sh (isA.of w19)) (hL _ (Nat.le_trans (by decide) ((isA.of w19)).1) (Nat.le_trans ((isA.of w19)).2 (by decide))) rfl 2 (by decide) rfl (hB _ mw_1_59) dX6_actor_71 ?_
        exact q_reti hx hb hr hlocks hC ⟨hT.symm, rfl⟩ dX6_actor_74
      replace hT := hT.trans (if_neg c22_2)
      by_cases c22_3 : a2 = 3
      · have hT : sp_X6_actor M a1 a2 = if (gI M (5 + a1.toNatClampNeg) 4) = 0 then (sp_X6_actor_B87 0) else (sp_X6_actor_B87 1) := hT.trans (if_pos c22_3)
        refine lv_tableIn (tgt := 75) hx hb dX6_actor_22 (by rw [c22_3]; decide) (by rw [c22_3]; decide) (by rw [c22_3]; rfl) (by decide) ?_
        refine lv_aload_n hx hb dX6_actor_75 rfl (lv_at hl 0 rfl) ?_
        refine q_geti (T := TX0) hx hb hB uw_X0 hown hK hC (isA.sh (isA.of w19)) (hL _ (Nat.le_trans (by decide) ((isA.of w19)).1) (Nat.le_trans ((isA.of w19)).2 (by decide))) rfl 4 (by decide) rfl (hB _ mw_1_68) dX6_actor_76 ?_
        refine lv_if_eq (tgt := 86) hx hb dX6_actor_79 (by decide) (fun c79 => ?_) (fun c79 => ?_)
        · have hT : sp_X6_actor M a1 a2 = sp_X6_actor_B87 0 := hT.trans (if_pos c79)
          refine lv_iconst (v := 0) hx hb dX6_actor_86 (by decide) ?_
          exact J87 0 _ _ _  hT hC (lv_sub hl [] rfl)
        · have hT : sp_X6_actor M a1 a2 = sp_X6_actor_B87 1 := hT.trans (if_neg c79)
          refine lv_iconst (v := 1) hx hb dX6_actor_82 (by decide) ?_
          refine lv_goto (tgt := 87) hx hb dX6_actor_83 (by decide) ?_
          exact J87 1 _ _ _  hT hC (lv_sub hl [] rfl)
      replace hT := hT.trans (if_neg c22_3)
      by_cases c22_4 : a2 = 4
      · have hT : sp_X6_actor M a1 a2 = gI M (5 + a1.toNatClampNeg) 6 := hT.trans (if_pos c22_4)
        refine lv_tableIn (tgt := 88) hx hb dX6_actor_22 (by rw [c22_4]; decide) (by rw [c22_4]; decide) (by rw [c22_4]; rfl) (by decide) ?_
        refine lv_aload_n hx hb dX6_actor_88 rfl (lv_at hl 0 rfl) ?_
        refine q_geti (T := TX0) hx hb hB uw_X0 hown hK hC (isA.sh (isA.of w19)) (hL _ (Nat.le_trans (by decide) ((isA.of w19)).1) (Nat.le_trans ((isA.of w19)).2 (by decide))) rfl 6 (by decide) rfl (hB _ mw_1_74) dX6_actor_89 ?_
        exact q_reti hx hb hr hlocks hC ⟨hT.symm, rfl⟩ dX6_actor_92
      replace hT := hT.trans (if_neg c22_4)
      by_cases c22_5 : a2 = 5
      · have hT : sp_X6_actor M a1 a2 = if (gI M (5 + a1.toNatClampNeg) 5) = 0 then (sp_X6_actor_B105 0) else (sp_X6_actor_B105 1) := hT.trans (if_pos c22_5)
        refine lv_tableIn (tgt := 93) hx hb dX6_actor_22 (by rw [c22_5]; decide) (by rw [c22_5]; decide) (by rw [c22_5]; rfl) (by decide) ?_
        refine lv_aload_n hx hb dX6_actor_93 rfl (lv_at hl 0 rfl) ?_
        refine q_geti (T := TX0) hx hb hB uw_X0 hown hK hC (isA.sh (isA.of w19)) (hL _ (Nat.le_trans (by decide) ((isA.of w19)).1) (Nat.le_trans ((isA.of w19)).2 (by decide))) rfl 5 (by decide) rfl (hB _ mw_1_71) dX6_actor_94 ?_
        refine lv_if_eq (tgt := 104) hx hb dX6_actor_97 (by decide) (fun c97 => ?_) (fun c97 => ?_)
        · have hT : sp_X6_actor M a1 a2 = sp_X6_actor_B105 0 := hT.trans (if_pos c97)
          refine lv_iconst (v := 0) hx hb dX6_actor_104 (by decide) ?_
          exact J105 0 _ _ _  hT hC (lv_sub hl [] rfl)
        · have hT : sp_X6_actor M a1 a2 = sp_X6_actor_B105 1 := hT.trans (if_neg c97)
          refine lv_iconst (v := 1) hx hb dX6_actor_100 (by decide) ?_
          refine lv_goto (tgt := 105) hx hb dX6_actor_101 (by decide) ?_
          exact J105 1 _ _ _  hT hC (lv_sub hl [] rfl)
      replace hT := hT.trans (if_neg c22_5)
      have hT : sp_X6_actor M a1 a2 = (-1) := hT
      refine lv_tableOut (tgt := 106) hx hb dX6_actor_22 (by have u0 : a2.toInt ≠ 0 := fun z => c22_0 (Int32.toInt_inj.mp (by rw [z]; rfl)); have u1 : a2.toInt ≠ 1 := fun z => c22_1 (Int32.toInt_inj.mp (by rw [z]; rfl)); have u2 : a2.toInt ≠ 2 := fun z => c22_2 (Int32.toInt_inj.mp (by rw [z]; rfl)); have u3 : a2.toInt ≠ 3 := fun z => c22_3 (Int32.toInt_inj.mp (by rw [z]; rfl)); have u4 : a2.toInt ≠ 4 := fun z => c22_4 (Int32.toInt_inj.mp (by rw [z]; rfl)); have u5 : a2.toInt ≠ 5 := fun z => c22_5 (Int32.toInt_inj.mp (by rw [z]; rfl)); omega) (by decide) ?_
      refine lv_iconst (v := (-1)) hx hb dX6_actor_106 (by decide) ?_
      exact q_reti hx hb hr hlocks hC ⟨hT.symm, rfl⟩ dX6_actor_107
    · have hT : sp_X6_actor M a1 a2 = sp_X6_actor_B9 := hT.trans (if_neg c6)
      exact J9  _ _ _  hT hC (lv_sub hl [] rfl)
set_option maxHeartbeats 4000000 in
set_option maxRecDepth 100000 in
theorem c_X6_progress (l : Launch) (D : va_G) (cy ad : Nat → Nat) (L : List Nat) (sz : Nat) (hL : lr 0 14 L) (M : Mem) (a1 : Int32) (hV : vc_X6_progress M a1) : Met l yX6_progress (Cond.code yX6_progress cX6_progress 2 (some .float) :: BG) ({ frames := 0, cells := 0, slots := 0, locals := 0 }) (va_Pc [.ref (ad 0), .int a1] (PW D cy ad L M sz)) (va_Qf (fun r N => r = sp_X6_progress M a1 ∧ N = M) (OW D cy ad L sz) (fA ad L sz)) 0 0 (fA ad L sz) := by
  refine q_start (by decide) (Nat.le_of_ble_eq_true rfl) (fun p e s m below meth c H locs ls hsz hx hb hr hlocks hml hown hB hK hE hC hl => ?_)
  subst hsz
  have hown : s.vm.findClass "MazeBoard" = some m.cls := hown
  have hl : lv_has ls 2 [(0, .ref (ad 0)), (1, .int a1)] := hl
  have J25 : ∀ (f1 : UInt32) (H : Heap) (locs : List Loc) (ls : Array Slot) (hT : sp_X6_progress M a1 = sp_X6_progress_B25 f1) (hC : Cx D cy ad R0 L (fA ad L s.heap.size) s M H locs) (hl : lv_has ls 2 []), W p l e ({ frames := 0, cells := 0, slots := 0, locals := 0 }) s m ([.ref (ad 0), .int a1] : List Value).toArray below meth c H locs 0 0 (MQ below (va_Qf (fun r N => r = sp_X6_progress M a1 ∧ N = M) (OW D cy ad L s.heap.size) (fA ad L s.heap.size)) ([.ref (ad 0), .int a1] : List Value).toArray s 0 0 (fA ad L s.heap.size)) (F0 m 25 ls [.float f1]) := by
    intro f1 H locs ls  hT hC hl
    have hT : sp_X6_progress M a1 = f1 := hT
    exact q_retf hx hb hr hlocks hC ⟨hT.symm, rfl⟩ dX6_progress_25
  have J9 : ∀  (H : Heap) (locs : List Loc) (ls : Array Slot) (hT : sp_X6_progress M a1 = sp_X6_progress_B9 ) (hC : Cx D cy ad R0 L (fA ad L s.heap.size) s M H locs) (hl : lv_has ls 2 []), W p l e ({ frames := 0, cells := 0, slots := 0, locals := 0 }) s m ([.ref (ad 0), .int a1] : List Value).toArray below meth c H locs 0 0 (MQ below (va_Qf (fun r N => r = sp_X6_progress M a1 ∧ N = M) (OW D cy ad L s.heap.size) (fA ad L s.heap.size)) ([.ref (ad 0), .int a1] : List Value).toArray s 0 0 (fA ad L s.heap.size)) (F0 m 9 ls []) := by
    intro  H locs ls  hT hC hl
    have hT : sp_X6_progress M a1 = sp_X6_progress_B25 FP.fconst0 := hT
    refine lv_fconst0 hx hb dX6_progress_9 ?_
    refine lv_goto (tgt := 25) hx hb dX6_progress_10 (by decide) ?_
    exact J25 FP.fconst0 _ _ _  hT hC (lv_sub hl [] rfl)
  have hT : sp_X6_progress M a1 = if a1 < 0 then sp_X6_progress_B9 else (if a1 < 5 then (sp_X6_progress_B25 (gF M (5 + a1.toNatClampNeg) 3)) else sp_X6_progress_B9) := rfl
  have hV : if a1 < 0 then True else (if a1 < 5 then vp_in a1 5 else True) := hV
  refine lv_iload_n hx hb dX6_progress_0 rfl (lv_at hl 1 rfl) ?_
  refine lv_if_lt (tgt := 9) hx hb dX6_progress_1 (by decide) (fun c1 => ?_) (fun c1 => ?_)
  · have hT : sp_X6_progress M a1 = sp_X6_progress_B9 := hT.trans (if_pos c1)
    exact J9  _ _ _  hT hC (lv_sub hl [] rfl)
  · have hT : sp_X6_progress M a1 = if a1 < 5 then (sp_X6_progress_B25 (gF M (5 + a1.toNatClampNeg) 3)) else sp_X6_progress_B9 := hT.trans (if_neg c1)
    have hV : if a1 < 5 then vp_in a1 5 else True := iteF hV c1
    refine lv_iload_n hx hb dX6_progress_4 rfl (lv_at hl 1 rfl) ?_
    refine lv_iconst (v := 5) hx hb dX6_progress_5 (by decide) ?_
    refine lv_icmp_lt (tgt := 13) hx hb dX6_progress_6 (by decide) (fun c6 => ?_) (fun c6 => ?_)
    · have hT : sp_X6_progress M a1 = sp_X6_progress_B25 (gF M (5 + a1.toNatClampNeg) 3) := hT.trans (if_pos c6)
      have hV : vp_in a1 5 := iteT hV c6
      refine lv_aload_n hx hb dX6_progress_13 rfl (lv_at hl 0 rfl) ?_
      refine q_getr (T := TX6) hx hb hB uw_X6 hown hK hC rfl (hL 0 (by decide) (by decide)) rfl 0 (by decide) rfl rfl (hB _ mw_1_219) dX6_progress_14 ?_
      refine q_getr (T := TX1) hx hb hB uw_X1 hown hK hC rfl (hL 1 (by decide) (by decide)) rfl 1 (by decide) rfl rfl (hB _ mw_1_130) dX6_progress_17 ?_
      refine lv_iload_n hx hb dX6_progress_20 rfl (lv_at hl 1 rfl) ?_
      have w21 : vp_in a1 5 := hV
      refine q_aald hx hb hK hC rfl (hL 4 (by decide) (by decide)) rfl w21 rfl dX6_progress_21 ?_
      refine q_getf (T := TX0) hx hb hB uw_X0 hown hK hC (isA.sh (isA.of w21)) (hL _ (Nat.le_trans (by decide) ((isA.of w21)).1) (Nat.le_trans ((isA.of w21)).2 (by decide))) rfl 3 (by decide) rfl (hB _ mw_1_64) dX6_progress_22 ?_
      exact J25 (gF M (5 + a1.toNatClampNeg) 3) _ _ _  hT hC (lv_sub hl [] rfl)
    · have hT : sp_X6_progress M a1 = sp_X6_progress_B9 := hT.trans (if_neg c6)
      exact J9  _ _ _  hT hC (lv_sub hl [] rfl)
