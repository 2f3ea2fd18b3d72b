set_option maxHeartbeats 4000000 in
set_option maxRecDepth 100000 in
theorem c_X1_passTime (l : Launch) (D : va_G) (cy ad : Nat → Nat) (L : List Nat) (sz : Nat) (hL : lr 1 9 L) (M : Mem)  (hV : vc_X1_passTime M ) : Met l yX1_passTime (Cond.code yX1_passTime cX1_passTime 2 (none) :: BG) ({ frames := 0, cells := 0, slots := 0, locals := 0 }) (va_Pc [.ref (ad 1)] (PW D cy ad L M sz)) (va_Qv (fun N => N = sp_X1_passTime M) (OW D cy ad L sz) (fA ad L sz)) 0 0 (fA ad L sz) := by
  refine q_start (by decide) (Nat.le_of_ble_eq_true rfl) (fun p e s m below meth c H locs ls hsz hx hb hr hlocks hml hown hB hK hE hC hl => ?_)
  subst hsz
  have hown : s.vm.findClass "MazeBoard$Game" = some m.cls := hown
  have hl : lv_has ls 2 [(0, .ref (ad 1))] := hl
  have J58 : ∀ (M7 : Mem) (H : Heap) (locs : List Loc) (ls : Array Slot) (hT : sp_X1_passTime M = sp_X1_passTime_B58 M7) (hC : Cx D cy ad R0 L (fA ad L s.heap.size) s M7 H locs) (hl : lv_has ls 2 []), W p l e ({ frames := 0, cells := 0, slots := 0, locals := 0 }) s m ([.ref (ad 1)] : List Value).toArray below meth c H locs 0 0 (MQ below (va_Qv (fun N => N = sp_X1_passTime M) (OW D cy ad L s.heap.size) (fA ad L s.heap.size)) ([.ref (ad 1)] : List Value).toArray s 0 0 (fA ad L s.heap.size)) (F0 m 58 ls []) := by
    intro M7 H locs ls  hT hC hl
    have hT : sp_X1_passTime M = M7 := hT
    exact q_retv hx hb hr hlocks hC hT.symm dX1_passTime_58
  have J37 : ∀ (n : Nat) (x3 : Int32) (M4 : Mem) (H : Heap) (locs : List Loc) (ls : Array Slot) (hT : sp_X1_passTime M = sp_X1_passTime_B37 n x3 M4) (hV : vc_X1_passTime_B37 n x3 M4) (hC : Cx D cy ad R0 L (fA ad L s.heap.size) s M4 H locs) (hl : lv_has ls 2 [(0, .ref (ad 1)), (1, .int x3)]), W p l e ({ frames := 0, cells := 0, slots := 0, locals := 0 }) s m ([.ref (ad 1)] : List Value).toArray below meth c H locs 0 0 (MQ below (va_Qv (fun N => N = sp_X1_passTime M) (OW D cy ad L s.heap.size) (fA ad L s.heap.size)) ([.ref (ad 1)] : List Value).toArray s 0 0 (fA ad L s.heap.size)) (F0 m 37 ls []) := by
    intro n
    induction n with
    | zero => intro x3 M4 H locs ls  hT hV; exact hV.elim
    | succ n ih =>
      intro x3 M4 H locs ls  hT hV hC hl
      have hT : sp_X1_passTime M = if 5 ≤ x3 then (sp_X1_passTime_B58 M4) else (sp_X1_passTime_n2 (sp_X1_passTime_B37 n) x3 (wI M4 (5 + x3.toNatClampNeg) 4 0)) := hT
      have hV : if 5 ≤ x3 then True else (vp_in x3 5 ∧ (vc_X1_passTime_n2 (vc_X1_passTime_B37 n) x3 (wI M4 (5 + x3.toNatClampNeg) 4 0))) := hV
      refine lv_iload_n hx hb dX1_passTime_37 rfl (lv_at hl 1 rfl) ?_
      refine lv_iconst (v := 5) hx hb dX1_passTime_38 (by decide) ?_
      refine lv_icmp_ge (tgt := 58) hx hb dX1_passTime_39 (by decide) (fun c39 => ?_) (fun c39 => ?_)
      · have hT : sp_X1_passTime M = sp_X1_passTime_B58 M4 := hT.trans (if_pos c39)
        exact J58 M4 _ _ _  hT hC (lv_sub hl [] rfl)
      · have hT : sp_X1_passTime M = sp_X1_passTime_n2 (sp_X1_passTime_B37 n) x3 (wI M4 (5 + x3.toNatClampNeg) 4 0) := hT.trans (if_neg c39)
        have hV : vp_in x3 5 ∧ (vc_X1_passTime_n2 (vc_X1_passTime_B37 n) x3 (wI M4 (5 + x3.toNatClampNeg) 4 0)) := iteF hV c39
        refine lv_aload_n hx hb dX1_passTime_42 rfl (lv_at hl 0 rfl) ?_
        refine q_getr (T := TX1) hx hb hB uw_X1 hown hK hC rfl (hL 1 (by decide) (by decide)) rfl 1 (by decide) rfl rfl (hB _ mw_1_129) dX1_passTime_43 ?_
        refine lv_iload_n hx hb dX1_passTime_46 rfl (lv_at hl 1 rfl) ?_
        obtain ⟨w47, hV⟩ : vp_in x3 5 ∧ (vc_X1_passTime_n2 (vc_X1_passTime_B37 n) x3 (wI M4 (5 + x3.toNatClampNeg) 4 0)) := hV
        refine q_aald hx hb hK hC rfl (hL 4 (by decide) (by decide)) rfl w47 rfl dX1_passTime_47 ?_
        refine lv_iconst (v := 0) hx hb dX1_passTime_48 (by decide) ?_
        refine q_puti (T := TX0) hx hb hB uw_X0 tyX0 tyX0_ok nmX0 hown hK hC (isA.sh (isA.of w47)) (hL _ (Nat.le_trans (by decide) ((isA.of w47)).1) (Nat.le_trans ((isA.of w47)).2 (by decide))) rfl 4 (by decide) rfl (hB _ mw_1_67) rfl rfl (by decide) (by decide) dX1_passTime_49 (fun H locs hC => ?_)
        obtain ⟨M5, eM5⟩ : ∃ z : Mem, z = wI M4 (5 + x3.toNatClampNeg) 4 0 := ⟨_, rfl⟩
        rw [← eM5] at hC
        have hT : sp_X1_passTime M = sp_X1_passTime_n2 (sp_X1_passTime_B37 n) x3 M5 := by rw [eM5]; exact hT
        have hV : vc_X1_passTime_n2 (vc_X1_passTime_B37 n) x3 M5 := by rw [eM5]; exact hV
        obtain ⟨x6, ex6⟩ : ∃ z : Int32, z = x3 + 1 := ⟨_, rfl⟩
        have hT : sp_X1_passTime M = sp_X1_passTime_n1 (sp_X1_passTime_B37 n) M5 x6 := by rw [ex6]; exact hT
        have hV : vc_X1_passTime_n1 (vc_X1_passTime_B37 n) M5 x6 := by rw [ex6]; exact hV
        refine lv_iinc (v := x6) (lv' := [(1, .int x6), (0, .ref (ad 1))]) hx hb dX1_passTime_52 hl (k := 1) rfl (by rw [ex6]; rfl) (by decide) rfl (fun ls hl => ?_)
        refine lv_goto (tgt := 37) hx hb dX1_passTime_55 (by decide) ?_
        exact ih x6 M5 _ _ _  hT hV hC (lv_sub hl [1, 0] rfl)
  have hT : sp_X1_passTime M = if (gI M 1 10) = 0 then (sp_X1_passTime_n3 (wI M 1 11 ((gI M 1 11) + 1))) else (sp_X1_passTime_n4 (wI M 1 10 ((gI M 1 10) - 1))) := rfl
  have hV : if (gI M 1 10) = 0 then True else (vc_X1_passTime_n4 (wI M 1 10 ((gI M 1 10) - 1))) := hV
  refine lv_aload_n hx hb dX1_passTime_0 rfl (lv_at hl 0 rfl) ?_
  refine q_geti (T := TX1) hx hb hB uw_X1 hown hK hC rfl (hL 1 (by decide) (by decide)) rfl 10 (by decide) rfl (hB _ mw_1_146) dX1_passTime_1 ?_
  refine lv_if_ne (tgt := 18) hx hb dX1_passTime_4 (by decide) (fun c4 => ?_) (fun c4 => ?_)
  · have hT : sp_X1_passTime M = sp_X1_passTime_n4 (wI M 1 10 ((gI M 1 10) - 1)) := hT.trans (if_neg c4)
    have hV : vc_X1_passTime_n4 (wI M 1 10 ((gI M 1 10) - 1)) := iteF hV c4
    refine lv_aload_n hx hb dX1_passTime_18 rfl (lv_at hl 0 rfl) ?_
    refine lv_dup hx hb dX1_passTime_19 rfl ?_
    refine q_geti (T := TX1) hx hb hB uw_X1 hown hK hC rfl (hL 1 (by decide) (by decide)) rfl 10 (by decide) rfl (hB _ mw_1_146) dX1_passTime_20 ?_
    refine lv_iconst (v := 1) hx hb dX1_passTime_23 (by decide) ?_
    refine lv_isub hx hb dX1_passTime_24 ?_
    refine q_puti (T := TX1) hx hb hB uw_X1 tyX1 tyX1_ok nmX1 hown hK hC rfl (hL 1 (by decide) (by decide)) rfl 10 (by decide) rfl (hB _ mw_1_146) rfl rfl rfl rfl dX1_passTime_25 (fun H locs hC => ?_)
    obtain ⟨M1, eM1⟩ : ∃ z : Mem, z = wI M 1 10 ((gI M 1 10) - 1) := ⟨_, rfl⟩
    rw [← eM1] at hC
    have hT : sp_X1_passTime M = sp_X1_passTime_n4 M1 := by rw [eM1]; exact hT
    have hV : vc_X1_passTime_n4 M1 := by rw [eM1]; exact hV
    refine lv_aload_n hx hb dX1_passTime_28 rfl (lv_at hl 0 rfl) ?_
    refine q_geti (T := TX1) hx hb hB uw_X1 hown hK hC rfl (hL 1 (by decide) (by decide)) rfl 10 (by decide) rfl (hB _ mw_1_146) dX1_passTime_29 ?_
    refine lv_if_ne (tgt := 58) hx hb dX1_passTime_32 (by decide) (fun c32 => ?_) (fun c32 => ?_)
    · have hT : sp_X1_passTime M = sp_X1_passTime_B58 M1 := hT.trans (if_neg c32)
      exact J58 M1 _ _ _  hT hC (lv_sub hl [] rfl)
    · have hT : sp_X1_passTime M = sp_X1_passTime_B37 6 1 M1 := hT.trans (if_pos c32)
      have hV : vc_X1_passTime_B37 6 1 M1 := iteT hV c32
      refine lv_iconst (v := 1) hx hb dX1_passTime_35 (by decide) ?_
      refine lv_istore_n (lv' := [(1, .int 1), (0, .ref (ad 1))]) hx hb dX1_passTime_36 rfl hl (by decide) rfl (fun ls hl => ?_)
      exact J37 6 1 M1 _ _ _  hT hV hC (lv_sub hl [1, 0] rfl)
  · have hT : sp_X1_passTime M = sp_X1_passTime_n3 (wI M 1 11 ((gI M 1 11) + 1)) := hT.trans (if_pos c4)
    refine lv_aload_n hx hb dX1_passTime_7 rfl (lv_at hl 0 rfl) ?_
    refine lv_dup hx hb dX1_passTime_8 rfl ?_
    refine q_geti (T := TX1) hx hb hB uw_X1 hown hK hC rfl (hL 1 (by decide) (by decide)) rfl 11 (by decide) rfl (hB _ mw_1_148) dX1_passTime_9 ?_
    refine lv_iconst (v := 1) hx hb dX1_passTime_12 (by decide) ?_
    refine lv_iadd hx hb dX1_passTime_13 ?_
    refine q_puti (T := TX1) hx hb hB uw_X1 tyX1 tyX1_ok nmX1 hown hK hC rfl (hL 1 (by decide) (by decide)) rfl 11 (by decide) rfl (hB _ mw_1_148) rfl rfl rfl rfl dX1_passTime_14 (fun H locs hC => ?_)
    obtain ⟨M2, eM2⟩ : ∃ z : Mem, z = wI M 1 11 ((gI M 1 11) + 1) := ⟨_, rfl⟩
    rw [← eM2] at hC
    have hT : sp_X1_passTime M = sp_X1_passTime_n3 M2 := by rw [eM2]; exact hT
    exact q_retv hx hb hr hlocks hC hT.symm dX1_passTime_17
set_option maxHeartbeats 4000000 in
set_option maxRecDepth 100000 in
theorem c_X1_playFrame (l : Launch) (D : va_G) (cy ad : Nat → Nat) (L : List Nat) (sz : Nat) (hL : lr 1 9 L) (M : Mem) (a1 : Int32) (hV : vc_X1_playFrame M a1) : Met l yX1_playFrame (Cond.code yX1_playFrame cX1_playFrame 3 (none) :: BG) ({ frames := 5, cells := 0, slots := 0, locals := 118 }) (va_Pc [.ref (ad 1), .int a1] (PW D cy ad L M sz)) (va_Qv (fun N => N = sp_X1_playFrame M a1) (OW D cy ad L sz) (fA ad L sz)) 0 0 (fA ad L sz) := by
  refine q_start (by decide) (Nat.le_of_ble_eq_true rfl) (fun p e s m below meth c H locs ls hsz hx hb hr hlocks hml hown hB hK hE hC hl => ?_)
  subst hsz
  have hown : s.vm.findClass "MazeBoard$Game" = some m.cls := hown
  have hl : lv_has ls 3 [(0, .ref (ad 1)), (1, .int a1)] := hl
  have J121 : ∀ (M21 : Mem) (H : Heap) (locs : List Loc) (ls : Array Slot) (hT : sp_X1_playFrame M a1 = sp_X1_playFrame_B121 M21) (hC : Cx D cy ad R0 L (fA ad L s.heap.size) s M21 H locs) (hl : lv_has ls 3 []), W p l e ({ frames := 5, cells := 0, slots := 0, locals := 118 }) s m ([.ref (ad 1), .int a1] : List Value).toArray below meth c H locs 0 0 (MQ below (va_Qv (fun N => N = sp_X1_playFrame M a1) (OW D cy ad L s.heap.size) (fA ad L s.heap.size)) ([.ref (ad 1), .int a1] : List Value).toArray s 0 0 (fA ad L s.heap.size)) (F0 m 121 ls []) := by
    intro M21 H locs ls  hT hC hl
    have hT : sp_X1_playFrame M a1 = M21 := hT
    exact q_retv hx hb hr hlocks hC hT.symm dX1_playFrame_121
  have J63 : ∀ (n : Nat) (x13 : Int32) (M14 : Mem) (H : Heap) (locs : List Loc) (ls : Array Slot) (hT : sp_X1_playFrame M a1 = sp_X1_playFrame_B63 n x13 M14) (hV : vc_X1_playFrame_B63 n x13 M14) (hC : Cx D cy ad R0 L (fA ad L s.heap.size) s M14 H locs) (hl : lv_has ls 3 [(0, .ref (ad 1)), (2, .int x13)]), W p l e ({ frames := 5, cells := 0, slots := 0, locals := 118 }) s m ([.ref (ad 1), .int a1] : List Value).toArray below meth c H locs 0 0 (MQ below (va_Qv (fun N => N = sp_X1_playFrame M a1) (OW D cy ad L s.heap.size) (fA ad L s.heap.size)) ([.ref (ad 1), .int a1] : List Value).toArray s 0 0 (fA ad L s.heap.size)) (F0 m 63 ls []) := by
    intro n
    induction n with
    | zero => intro x13 M14 H locs ls  hT hV; exact hV.elim
    | succ n ih =>
      intro x13 M14 H locs ls  hT hV hC hl
      have hT : sp_X1_playFrame M a1 = if 5 ≤ x13 then (sp_X1_playFrame_n4 (sp_X1_meetHunters M14)) else (sp_X1_playFrame_n6 (sp_X1_playFrame_B63 n) x13 (sp_X1_moveHunter M14 x13)) := hT
      have hV : if 5 ≤ x13 then (vc_X1_meetHunters M14 ∧ (vc_X1_playFrame_n4 (sp_X1_meetHunters M14))) else (vc_X1_moveHunter M14 x13 ∧ (vc_X1_playFrame_n6 (vc_X1_playFrame_B63 n) x13 (sp_X1_moveHunter M14 x13))) := hV
      refine lv_iload_n hx hb dX1_playFrame_63 rfl (lv_at hl 1 rfl) ?_
      refine lv_iconst (v := 5) hx hb dX1_playFrame_64 (by decide) ?_
      refine lv_icmp_ge (tgt := 79) hx hb dX1_playFrame_65 (by decide) (fun c65 => ?_) (fun c65 => ?_)
      · have hT : sp_X1_playFrame M a1 = sp_X1_playFrame_n4 (sp_X1_meetHunters M14) := hT.trans (if_pos c65)
        have hV : vc_X1_meetHunters M14 ∧ (vc_X1_playFrame_n4 (sp_X1_meetHunters M14)) := iteT hV c65
        refine lv_aload_n hx hb dX1_playFrame_79 rfl (lv_at hl 0 rfl) ?_
        obtain ⟨v80, hV⟩ : vc_X1_meetHunters M14 ∧ (vc_X1_playFrame_n4 (sp_X1_meetHunters M14)) := hV
        refine q_Cv (q_V (own := "MazeBoard$Game") (y := yX1_meetHunters) (As := []) (rest := []) ⟨hx, hb, hml, hown, hB⟩ hK hE hC (c_X1_meetHunters l D cy ad L H.size (hL.sub (by decide) (by decide)) M14  v80) rfl (hL 1 (by decide) (by decide)) rfl mw_2_152 mw_2_154 mw_0_18 mw_1_2 mw_2_155 rfl yd_X1_meetHunters ⟨rfl, rfl⟩ ⟨Nat.le_of_ble_eq_true rfl, Nat.le_of_ble_eq_true rfl⟩ rfl hl.1 rfl (Nat.le_of_ble_eq_true rfl) dX1_playFrame_80 ⟨Nat.le_refl _, Nat.le_refl _⟩) hC (fun M15 H locs eM15 hC => ?_)
        have hT : sp_X1_playFrame M a1 = sp_X1_playFrame_n4 M15 := by rw [eM15]; exact hT
        have hV : vc_X1_playFrame_n4 M15 := by rw [eM15]; exact hV
        refine lv_aload_n hx hb dX1_playFrame_83 rfl (lv_at hl 0 rfl) ?_
        refine q_getr (T := TX1) hx hb hB uw_X1 hown hK hC rfl (hL 1 (by decide) (by decide)) rfl 0 (by decide) rfl rfl (hB _ mw_1_127) dX1_playFrame_84 ?_
        refine q_geti (T := TX2) hx hb hB uw_X2 hown hK hC rfl (hL 2 (by decide) (by decide)) rfl 1 (by decide) rfl (hB _ mw_1_32) dX1_playFrame_87 ?_
        refine lv_if_ne (tgt := 121) hx hb dX1_playFrame_90 (by decide) (fun c90 => ?_) (fun c90 => ?_)
        · have hT : sp_X1_playFrame M a1 = sp_X1_playFrame_B121 M15 := hT.trans (if_neg c90)
          exact J121 M15 _ _ _  hT hC (lv_sub hl [] rfl)
        · have hT : sp_X1_playFrame M a1 = if (gI M15 1 15) = 0 then (sp_X1_playFrame_n3 (wI M15 1 7 ((gI M15 1 7) + 1))) else (sp_X1_playFrame_B121 M15) := hT.trans (if_pos c90)
          have hV : if (gI M15 1 15) = 0 then (vc_X1_playFrame_n3 (wI M15 1 7 ((gI M15 1 7) + 1))) else True := iteT hV c90
          refine lv_aload_n hx hb dX1_playFrame_93 rfl (lv_at hl 0 rfl) ?_
          refine q_geti (T := TX1) hx hb hB uw_X1 hown hK hC rfl (hL 1 (by decide) (by decide)) rfl 15 (by decide) rfl (hB _ mw_1_156) dX1_playFrame_94 ?_
          refine lv_if_ne (tgt := 121) hx hb dX1_playFrame_97 (by decide) (fun c97 => ?_) (fun c97 => ?_)
          · have hT : sp_X1_playFrame M a1 = sp_X1_playFrame_B121 M15 := hT.trans (if_neg c97)
            exact J121 M15 _ _ _  hT hC (lv_sub hl [] rfl)
          · have hT : sp_X1_playFrame M a1 = sp_X1_playFrame_n3 (wI M15 1 7 ((gI M15 1 7) + 1)) := hT.trans (if_pos c97)
            have hV : vc_X1_playFrame_n3 (wI M15 1 7 ((gI M15 1 7) + 1)) := iteT hV c97
            refine lv_aload_n hx hb dX1_playFrame_100 rfl (lv_at hl 0 rfl) ?_
            refine lv_dup hx hb dX1_playFrame_101 rfl ?_
            refine q_geti (T := TX1) hx hb hB uw_X1 hown hK hC rfl (hL 1 (by decide) (by decide)) rfl 7 (by decide) rfl (hB _ mw_1_141) dX1_playFrame_102 ?_
            refine lv_iconst (v := 1) hx hb dX1_playFrame_105 (by decide) ?_
            refine lv_iadd hx hb dX1_playFrame_106 ?_
            refine q_puti (T := TX1) hx hb hB uw_X1 tyX1 tyX1_ok nmX1 hown hK hC rfl (hL 1 (by decide) (by decide)) rfl 7 (by decide) rfl (hB _ mw_1_141) rfl rfl rfl rfl dX1_playFrame_107 (fun H locs hC => ?_)
            obtain ⟨M16, eM16⟩ : ∃ z : Mem, z = wI M15 1 7 ((gI M15 1 7) + 1) := ⟨_, rfl⟩
            rw [← eM16] at hC
            have hT : sp_X1_playFrame M a1 = sp_X1_playFrame_n3 M16 := by rw [eM16]; exact hT
            have hV : vc_X1_playFrame_n3 M16 := by rw [eM16]; exact hV
            refine lv_aload_n hx hb dX1_playFrame_110 rfl (lv_at hl 0 rfl) ?_
            refine q_getr (T := TX1) hx hb hB uw_X1 hown hK hC rfl (hL 1 (by decide) (by decide)) rfl 0 (by decide) rfl rfl (hB _ mw_1_127) dX1_playFrame_111 ?_
            obtain ⟨v114, hV⟩ : vc_X2_refill M16 ∧ (vc_X1_playFrame_n2 (sp_X2_refill M16)) := hV
            refine q_Cv (q_V (own := "MazeBoard$Game") (y := yX2_refill) (As := []) (rest := []) ⟨hx, hb, hml, hown, hB⟩ hK hE hC (c_X2_refill l D cy ad L H.size (hL.sub (by decide) (by decide)) M16  v114) rfl (hL 2 (by decide) (by decide)) rfl mw_1_113 mw_1_114 mw_1_115 mw_1_3 mw_1_116 rfl yd_X2_refill ⟨rfl, rfl⟩ ⟨Nat.le_of_ble_eq_true rfl, Nat.le_of_ble_eq_true rfl⟩ rfl hl.1 rfl (Nat.le_of_ble_eq_true rfl) dX1_playFrame_114 ⟨Nat.le_refl _, Nat.le_refl _⟩) hC (fun M17 H locs eM17 hC => ?_)
            have hT : sp_X1_playFrame M a1 = sp_X1_playFrame_n2 M17 := by rw [eM17]; exact hT
            have hV : vc_X1_playFrame_n2 M17 := by rw [eM17]; exact hV
            refine lv_aload_n hx hb dX1_playFrame_117 rfl (lv_at hl 0 rfl) ?_
            have v118 : vc_X1_placeActors M17 := hV
            refine q_Cv (q_V (own := "MazeBoard$Game") (y := yX1_placeActors) (As := []) (rest := []) ⟨hx, hb, hml, hown, hB⟩ hK hE hC (c_X1_placeActors l D cy ad L H.size (hL.sub (by decide) (by decide)) M17  v118) rfl (hL 1 (by decide) (by decide)) rfl mw_1_119 mw_1_121 mw_0_1 mw_1_2 mw_1_122 rfl yd_X1_placeActors ⟨rfl, rfl⟩ ⟨Nat.le_of_ble_eq_true rfl, Nat.le_of_ble_eq_true rfl⟩ rfl hl.1 rfl (Nat.le_of_ble_eq_true rfl) dX1_playFrame_118 ⟨Nat.le_refl _, Nat.le_refl _⟩) hC (fun M18 H locs eM18 hC => ?_)
            have hT : sp_X1_playFrame M a1 = sp_X1_playFrame_n1 M18 := by rw [eM18]; exact hT
            exact J121 M18 _ _ _  hT hC (lv_sub hl [] rfl)
      · have hT : sp_X1_playFrame M a1 = sp_X1_playFrame_n6 (sp_X1_playFrame_B63 n) x13 (sp_X1_moveHunter M14 x13) := hT.trans (if_neg c65)
        have hV : vc_X1_moveHunter M14 x13 ∧ (vc_X1_playFrame_n6 (vc_X1_playFrame_B63 n) x13 (sp_X1_moveHunter M14 x13)) := iteF hV c65
        refine lv_aload_n hx hb dX1_playFrame_68 rfl (lv_at hl 0 rfl) ?_
        refine lv_iload_n hx hb dX1_playFrame_69 rfl (lv_at hl 1 rfl) ?_
        obtain ⟨v70, hV⟩ : vc_X1_moveHunter M14 x13 ∧ (vc_X1_playFrame_n6 (vc_X1_playFrame_B63 n) x13 (sp_X1_moveHunter M14 x13)) := hV
        refine q_Cv (q_V (own := "MazeBoard$Game") (y := yX1_moveHunter) (As := [.int x13]) (rest := []) ⟨hx, hb, hml, hown, hB⟩ hK hE hC (c_X1_moveHunter l D cy ad L H.size (hL.sub (by decide) (by decide)) M14 x13 v70) rfl (hL 1 (by decide) (by decide)) rfl mw_2_93 mw_2_95 mw_0_9 mw_1_2 mw_2_96 rfl yd_X1_moveHunter ⟨rfl, rfl⟩ ⟨Nat.le_of_ble_eq_true rfl, Nat.le_of_ble_eq_true rfl⟩ rfl hl.1 rfl (Nat.le_of_ble_eq_true rfl) dX1_playFrame_70 ⟨Nat.le_refl _, Nat.le_refl _⟩) hC (fun M19 H locs eM19 hC => ?_)
        have hT : sp_X1_playFrame M a1 = sp_X1_playFrame_n6 (sp_X1_playFrame_B63 n) x13 M19 := by rw [eM19]; exact hT
        have hV : vc_X1_playFrame_n6 (vc_X1_playFrame_B63 n) x13 M19 := by rw [eM19]; exact hV
        obtain ⟨x20, ex20⟩ : ∃ z : Int32, z = x13 + 1 := ⟨_, rfl⟩
        have hT : sp_X1_playFrame M a1 = sp_X1_playFrame_n5 (sp_X1_playFrame_B63 n) M19 x20 := by rw [ex20]; exact hT
        have hV : vc_X1_playFrame_n5 (vc_X1_playFrame_B63 n) M19 x20 := by rw [ex20]; exact hV
        refine lv_iinc (v := x20) (lv' := [(2, .int x20), (0, .ref (ad 1))]) hx hb dX1_playFrame_73 hl (k := 1) rfl (by rw [ex20]; rfl) (by decide) rfl (fun ls hl => ?_)
        refine lv_goto (tgt := 63) hx hb dX1_playFrame_76 (by decide) ?_
        exact ih x20 M19 _ _ _  hT hV hC (lv_sub hl [1, 0] rfl)
  have J61 : ∀ (M12 : Mem) (H : Heap) (locs : List Loc) (ls : Array Slot) (hT : sp_X1_playFrame M a1 = sp_X1_playFrame_B61 M12) (hV : vc_X1_playFrame_B61 M12) (hC : Cx D cy ad R0 L (fA ad L s.heap.size) s M12 H locs) (hl : lv_has ls 3 [(0, .ref (ad 1))]), W p l e ({ frames := 5, cells := 0, slots := 0, locals := 118 }) s m ([.ref (ad 1), .int a1] : List Value).toArray below meth c H locs 0 0 (MQ below (va_Qv (fun N => N = sp_X1_playFrame M a1) (OW D cy ad L s.heap.size) (fA ad L s.heap.size)) ([.ref (ad 1), .int a1] : List Value).toArray s 0 0 (fA ad L s.heap.size)) (F0 m 61 ls []) := by
    intro M12 H locs ls  hT hV hC hl
    have hT : sp_X1_playFrame M a1 = sp_X1_playFrame_B63 6 1 M12 := hT
    have hV : vc_X1_playFrame_B63 6 1 M12 := hV
    refine lv_iconst (v := 1) hx hb dX1_playFrame_61 (by decide) ?_
    refine lv_istore_n (lv' := [(2, .int 1), (0, .ref (ad 1))]) hx hb dX1_playFrame_62 rfl hl (by decide) rfl (fun ls hl => ?_)
    exact J63 6 1 M12 _ _ _  hT hV hC (lv_sub hl [1, 0] rfl)
  have J25 : ∀ (n : Nat) (x4 : Int32) (M5 : Mem) (H : Heap) (locs : List Loc) (ls : Array Slot) (hT : sp_X1_playFrame M a1 = sp_X1_playFrame_B25 n a1 x4 M5) (hV : vc_X1_playFrame_B25 n a1 x4 M5) (hC : Cx D cy ad R0 L (fA ad L s.heap.size) s M5 H locs) (hl : lv_has ls 3 [(0, .ref (ad 1)), (1, .int a1), (2, .int x4)]), W p l e ({ frames := 5, cells := 0, slots := 0, locals := 118 }) s m ([.ref (ad 1), .int a1] : List Value).toArray below meth c H locs 0 0 (MQ below (va_Qv (fun N => N = sp_X1_playFrame M a1) (OW D cy ad L s.heap.size) (fA ad L s.heap.size)) ([.ref (ad 1), .int a1] : List Value).toArray s 0 0 (fA ad L s.heap.size)) (F0 m 25 ls []) := by
    intro n
    induction n with
    | zero => intro x4 M5 H locs ls  hT hV; exact hV.elim
    | succ n ih =>
      intro x4 M5 H locs ls  hT hV hC hl
      have hT : sp_X1_playFrame M a1 = if 5 ≤ x4 then (sp_X1_playFrame_n9 a1 (sp_X1_passTime M5)) else (sp_X1_playFrame_n11 (sp_X1_playFrame_B25 n) a1 x4 (sp_X0_rememberCell M5 (5 + x4.toNatClampNeg))) := hT
      have hV : if 5 ≤ x4 then (vc_X1_passTime M5 ∧ (vc_X1_playFrame_n9 a1 (sp_X1_passTime M5))) else (vp_in x4 5 ∧ (vc_X1_playFrame_n11 (vc_X1_playFrame_B25 n) a1 x4 (sp_X0_rememberCell M5 (5 + x4.toNatClampNeg)))) := hV
      refine lv_iload_n hx hb dX1_playFrame_25 rfl (lv_at hl 2 rfl) ?_
      refine lv_iconst (v := 5) hx hb dX1_playFrame_26 (by decide) ?_
      refine lv_icmp_ge (tgt := 45) hx hb dX1_playFrame_27 (by decide) (fun c27 => ?_) (fun c27 => ?_)
      · have hT : sp_X1_playFrame M a1 = sp_X1_playFrame_n9 a1 (sp_X1_passTime M5) := hT.trans (if_pos c27)
        have hV : vc_X1_passTime M5 ∧ (vc_X1_playFrame_n9 a1 (sp_X1_passTime M5)) := iteT hV c27
        refine lv_aload_n hx hb dX1_playFrame_45 rfl (lv_at hl 0 rfl) ?_
        obtain ⟨v46, hV⟩ : vc_X1_passTime M5 ∧ (vc_X1_playFrame_n9 a1 (sp_X1_passTime M5)) := hV
        refine q_Cv (q_V (own := "MazeBoard$Game") (y := yX1_passTime) (As := []) (rest := []) ⟨hx, hb, hml, hown, hB⟩ hK hE hC (c_X1_passTime l D cy ad L H.size (hL.sub (by decide) (by decide)) M5  v46) rfl (hL 1 (by decide) (by decide)) rfl mw_2_30 mw_2_32 mw_0_2 mw_1_2 mw_2_33 rfl yd_X1_passTime ⟨rfl, rfl⟩ ⟨Nat.le_of_ble_eq_true rfl, Nat.le_of_ble_eq_true rfl⟩ rfl hl.1 rfl (Nat.le_of_ble_eq_true rfl) dX1_playFrame_46 ⟨Nat.le_refl _, Nat.le_refl _⟩) hC (fun M6 H locs eM6 hC => ?_)
        have hT : sp_X1_playFrame M a1 = sp_X1_playFrame_n9 a1 M6 := by rw [eM6]; exact hT
        have hV : vc_X1_playFrame_n9 a1 M6 := by rw [eM6]; exact hV
        refine lv_aload_n hx hb dX1_playFrame_49 rfl (lv_at hl 0 rfl) ?_
        refine lv_iload_n hx hb dX1_playFrame_50 rfl (lv_at hl 1 rfl) ?_
        obtain ⟨v51, hV⟩ : vc_X1_movePlayer M6 a1 ∧ (vc_X1_playFrame_n8 ((sp_X1_movePlayer M6 a1).2) ((sp_X1_movePlayer M6 a1).1)) := hV
        refine q_Ci (q_V (own := "MazeBoard$Game") (y := yX1_movePlayer) (As := [.int a1]) (rest := []) ⟨hx, hb, hml, hown, hB⟩ hK hE hC (c_X1_movePlayer l D cy ad L H.size (hL.sub (by decide) (by decide)) M6 a1 v51) rfl (hL 1 (by decide) (by decide)) rfl mw_2_34 mw_2_36 mw_0_3 mw_1_2 mw_2_37 rfl yd_X1_movePlayer ⟨rfl, rfl⟩ ⟨Nat.le_of_ble_eq_true rfl, Nat.le_of_ble_eq_true rfl⟩ rfl hl.1 rfl (Nat.le_of_ble_eq_true rfl) dX1_playFrame_51 ⟨Nat.le_refl _, Nat.le_refl _⟩) hC (fun x8 M7 H locs hp hC => ?_)
        obtain ⟨ex8, eM7⟩ := hp
        have hT : sp_X1_playFrame M a1 = sp_X1_playFrame_n8 M7 x8 := by rw [ex8, eM7]; exact hT
        have hV : vc_X1_playFrame_n8 M7 x8 := by rw [ex8, eM7]; exact hV
        refine lv_if_eq (tgt := 61) hx hb dX1_playFrame_54 (by decide) (fun c54 => ?_) (fun c54 => ?_)
        · have hT : sp_X1_playFrame M a1 = sp_X1_playFrame_B61 M7 := hT.trans (if_pos c54)
          have hV : vc_X1_playFrame_B61 M7 := iteT hV c54
          exact J61 M7 _ _ _  hT hV hC (lv_sub hl [0] rfl)
        · have hT : sp_X1_playFrame M a1 = sp_X1_playFrame_n7 (sp_X1_eatHere M7) := hT.trans (if_neg c54)
          have hV : vc_X1_eatHere M7 ∧ (vc_X1_playFrame_n7 (sp_X1_eatHere M7)) := iteF hV c54
          refine lv_aload_n hx hb dX1_playFrame_57 rfl (lv_at hl 0 rfl) ?_
          obtain ⟨v58, hV⟩ : vc_X1_eatHere M7 ∧ (vc_X1_playFrame_n7 (sp_X1_eatHere M7)) := hV
          refine q_Cv (q_V (own := "MazeBoard$Game") (y := yX1_eatHere) (As := []) (rest := []) ⟨hx, hb, hml, hown, hB⟩ hK hE hC (c_X1_eatHere l D cy ad L H.size (hL.sub (by decide) (by decide)) M7  v58) rfl (hL 1 (by decide) (by decide)) rfl mw_2_67 mw_2_69 mw_0_5 mw_1_2 mw_2_70 rfl yd_X1_eatHere ⟨rfl, rfl⟩ ⟨Nat.le_of_ble_eq_true rfl, Nat.le_of_ble_eq_true rfl⟩ rfl hl.1 rfl (Nat.le_of_ble_eq_true rfl) dX1_playFrame_58 ⟨Nat.le_refl _, Nat.le_refl _⟩) hC (fun M9 H locs eM9 hC => ?_)
          have hT : sp_X1_playFrame M a1 = sp_X1_playFrame_n7 M9 := by rw [eM9]; exact hT
          have hV : vc_X1_playFrame_n7 M9 := by rw [eM9]; exact hV
          exact J61 M9 _ _ _  hT hV hC (lv_sub hl [0] rfl)
      · have hT : sp_X1_playFrame M a1 = sp_X1_playFrame_n11 (sp_X1_playFrame_B25 n) a1 x4 (sp_X0_rememberCell M5 (5 + x4.toNatClampNeg)) := hT.trans (if_neg c27)
        have hV : vp_in x4 5 ∧ (vc_X1_playFrame_n11 (vc_X1_playFrame_B25 n) a1 x4 (sp_X0_rememberCell M5 (5 + x4.toNatClampNeg))) := iteF hV c27
        refine lv_aload_n hx hb dX1_playFrame_30 rfl (lv_at hl 0 rfl) ?_
        refine q_getr (T := TX1) hx hb hB uw_X1 hown hK hC rfl (hL 1 (by decide) (by decide)) rfl 1 (by decide) rfl rfl (hB _ mw_1_129) dX1_playFrame_31 ?_
        refine lv_iload_n hx hb dX1_playFrame_34 rfl (lv_at hl 2 rfl) ?_
        obtain ⟨w35, hV⟩ : vp_in x4 5 ∧ (vc_X1_playFrame_n11 (vc_X1_playFrame_B25 n) a1 x4 (sp_X0_rememberCell M5 (5 + x4.toNatClampNeg))) := hV
        refine q_aald hx hb hK hC rfl (hL 4 (by decide) (by decide)) rfl w35 rfl dX1_playFrame_35 ?_
        refine q_Cv (q_V (own := "MazeBoard$Game") (y := yX0_rememberCell) (As := []) (rest := []) ⟨hx, hb, hml, hown, hB⟩ hK hE hC (c_X0_rememberCell l D cy ad L H.size (hL.sub (by decide) (by decide)) M5 (5 + x4.toNatClampNeg) (isA.of w35)) (isA.sh (isA.of w35)) (hL _ (Nat.le_trans (by decide) ((isA.of w35)).1) (Nat.le_trans ((isA.of w35)).2 (by decide))) rfl mw_2_26 mw_2_27 mw_2_28 mw_1_4 mw_2_29 rfl yd_X0_rememberCell ⟨rfl, rfl⟩ ⟨Nat.le_of_ble_eq_true rfl, Nat.le_of_ble_eq_true rfl⟩ rfl hl.1 rfl (Nat.le_of_ble_eq_true rfl) dX1_playFrame_36 ⟨Nat.le_refl _, Nat.le_refl _⟩) hC (fun M10 H locs eM10 hC => ?_)
        have hT : sp_X1_playFrame M a1 = sp_X1_playFrame_n11 (sp_X1_playFrame_B25 n) a1 x4 M10 := by rw [eM10]; exact hT
        have hV : vc_X1_playFrame_n11 (vc_X1_playFrame_B25 n) a1 x4 M10 := by rw [eM10]; exact hV
        obtain ⟨x11, ex11⟩ : ∃ z : Int32, z = x4 + 1 := ⟨_, rfl⟩
        have hT : sp_X1_playFrame M a1 = sp_X1_playFrame_n10 (sp_X1_playFrame_B25 n) a1 M10 x11 := by rw [ex11]; exact hT
        have hV : vc_X1_playFrame_n10 (vc_X1_playFrame_B25 n) a1 M10 x11 := by rw [ex11]; exact hV
        refine lv_iinc (v := x11) (lv' := [(2, .int x11), (0, .ref (ad 1)), (1, .int a1)]) hx hb dX1_playFrame_39 hl (k := 2) rfl (by rw [ex11]; rfl) (by decide) rfl (fun ls hl => ?_)
        refine lv_goto (tgt := 25) hx hb dX1_playFrame_42 (by decide) ?_
        exact ih x11 M10 _ _ _  hT hV hC (lv_sub hl [1, 2, 0] rfl)
  have hT : sp_X1_playFrame M a1 = sp_X1_playFrame_n14 a1 (wI M 1 13 0) := rfl
  have hV : vc_X1_playFrame_n14 a1 (wI M 1 13 0) := hV
  refine lv_aload_n hx hb dX1_playFrame_0 rfl (lv_at hl 0 rfl) ?_
  refine lv_iconst (v := 0) hx hb dX1_playFrame_1 (by decide) ?_
  refine q_puti (T := TX1) hx hb hB uw_X1 tyX1 tyX1_ok nmX1 hown hK hC rfl (hL 1 (by decide) (by decide)) rfl 13 (by decide) rfl (hB _ mw_1_152) rfl rfl (by decide) (by decide) dX1_playFrame_2 (fun H locs hC => ?_)
  obtain ⟨M1, eM1⟩ : ∃ z : Mem, z = wI M 1 13 0 := ⟨_, rfl⟩
  rw [← eM1] at hC
  have hT : sp_X1_playFrame M a1 = sp_X1_playFrame_n14 a1 M1 := by rw [eM1]; exact hT
  have hV : vc_X1_playFrame_n14 a1 M1 := by rw [eM1]; exact hV
  refine lv_aload_n hx hb dX1_playFrame_5 rfl (lv_at hl 0 rfl) ?_
  refine lv_iconst (v := 0) hx hb dX1_playFrame_6 (by decide) ?_
  refine q_puti (T := TX1) hx hb hB uw_X1 tyX1 tyX1_ok nmX1 hown hK hC rfl (hL 1 (by decide) (by decide)) rfl 14 (by decide) rfl (hB _ mw_1_154) rfl rfl (by decide) (by decide) dX1_playFrame_7 (fun H locs hC => ?_)
  obtain ⟨M2, eM2⟩ : ∃ z : Mem, z = wI M1 1 14 0 := ⟨_, rfl⟩
  rw [← eM2] at hC
  have hT : sp_X1_playFrame M a1 = sp_X1_playFrame_n13 a1 M2 := by rw [eM2]; exact hT
  have hV : vc_X1_playFrame_n13 a1 M2 := by rw [eM2]; exact hV
  refine lv_aload_n hx hb dX1_playFrame_10 rfl (lv_at hl 0 rfl) ?_
  refine lv_iconst (v := 0) hx hb dX1_playFrame_11 (by decide) ?_
  refine q_puti (T := TX1) hx hb hB uw_X1 tyX1 tyX1_ok nmX1 hown hK hC rfl (hL 1 (by decide) (by decide)) rfl 15 (by decide) rfl (hB _ mw_1_156) rfl rfl (by decide) (by decide) dX1_playFrame_12 (fun H locs hC => ?_)
  obtain ⟨M3, eM3⟩ : ∃ z : Mem, z = wI M2 1 15 0 := ⟨_, rfl⟩
  rw [← eM3] at hC
  have hT : sp_X1_playFrame M a1 = sp_X1_playFrame_n12 a1 M3 := by rw [eM3]; exact hT
  have hV : vc_X1_playFrame_n12 a1 M3 := by rw [eM3]; exact hV
  refine lv_aload_n hx hb dX1_playFrame_15 rfl (lv_at hl 0 rfl) ?_
  refine q_geti (T := TX1) hx hb hB uw_X1 hown hK hC rfl (hL 1 (by decide) (by decide)) rfl 3 (by decide) rfl (hB _ mw_1_132) dX1_playFrame_16 ?_
  refine lv_if_ne (tgt := 23) hx hb dX1_playFrame_19 (by decide) (fun c19 => ?_) (fun c19 => ?_)
  · have hT : sp_X1_playFrame M a1 = sp_X1_playFrame_B25 6 a1 0 M3 := hT.trans (if_neg c19)
    have hV : vc_X1_playFrame_B25 6 a1 0 M3 := iteF hV c19
    refine lv_iconst (v := 0) hx hb dX1_playFrame_23 (by decide) ?_
    refine lv_istore_n (lv' := [(2, .int 0), (0, .ref (ad 1)), (1, .int a1)]) hx hb dX1_playFrame_24 rfl hl (by decide) rfl (fun ls hl => ?_)
    exact J25 6 0 M3 _ _ _  hT hV hC (lv_sub hl [1, 2, 0] rfl)
  · have hT : sp_X1_playFrame M a1 = M3 := hT.trans (if_pos c19)
    exact q_retv hx hb hr hlocks hC hT.symm dX1_playFrame_22
set_option maxHeartbeats 4000000 in
set_option maxRecDepth 100000 in
theorem c_X1_humPitch (l : Launch) (D : va_G) (cy ad : Nat → Nat) (L : List Nat) (sz : Nat) (hL : lr 1 9 L) (M : Mem)  (hV : vc_X1_humPitch M ) : Met l yX1_humPitch (Cond.code yX1_humPitch cX1_humPitch 1 (some .int) :: BG) ({ frames := 1, cells := 0, slots := 0, locals := 20 }) (va_Pc [.ref (ad 1)] (PW D cy ad L M sz)) (va_Qi (fun r N => r = sp_X1_humPitch M ∧ N = M) (OW D cy ad L sz) (fA ad L sz)) 0 0 (fA ad L sz) := by
  refine q_start (by decide) (Nat.le_of_ble_eq_true rfl) (fun p e s m below meth c H locs ls hsz hx hb hr hlocks hml hown hB hK hE hC hl => ?_)
  subst hsz
  have hown : s.vm.findClass "MazeBoard$Game" = some m.cls := hown
  have hl : lv_has ls 1 [(0, .ref (ad 1))] := hl
  have J35 : ∀ (x1 : Int32) (H : Heap) (locs : List Loc) (ls : Array Slot) (hT : sp_X1_humPitch M = sp_X1_humPitch_B35 x1) (hC : Cx D cy ad R0 L (fA ad L s.heap.size) s M H locs) (hl : lv_has ls 1 []), W p l e ({ frames := 1, cells := 0, slots := 0, locals := 20 }) s m ([.ref (ad 1)] : List Value).toArray below meth c H locs 0 0 (MQ below (va_Qi (fun r N => r = sp_X1_humPitch M ∧ N = M) (OW D cy ad L s.heap.size) (fA ad L s.heap.size)) ([.ref (ad 1)] : List Value).toArray s 0 0 (fA ad L s.heap.size)) (F0 m 35 ls [.int x1]) := by
    intro x1 H locs ls  hT hC hl
    have hT : sp_X1_humPitch M = x1 := hT
    exact q_reti hx hb hr hlocks hC ⟨hT.symm, rfl⟩ dX1_humPitch_35
  have hT : sp_X1_humPitch M = if (gI M 1 10) ≤ 0 then (if (sp_X1_isScatter M) = 0 then (sp_X1_humPitch_B35 (300 + (10 * (gI M 1 7)))) else (sp_X1_humPitch_B35 300)) else 600 := rfl
  have hV : if (gI M 1 10) ≤ 0 then vc_X1_isScatter M else True := hV
  refine lv_aload_n hx hb dX1_humPitch_0 rfl (lv_at hl 0 rfl) ?_
  refine q_geti (T := TX1) hx hb hB uw_X1 hown hK hC rfl (hL 1 (by decide) (by decide)) rfl 10 (by decide) rfl (hB _ mw_1_146) dX1_humPitch_1 ?_
  refine lv_if_le (tgt := 11) hx hb dX1_humPitch_4 (by decide) (fun c4 => ?_) (fun c4 => ?_)
  · have hT : sp_X1_humPitch M = if (sp_X1_isScatter M) = 0 then (sp_X1_humPitch_B35 (300 + (10 * (gI M 1 7)))) else (sp_X1_humPitch_B35 300) := hT.trans (if_pos c4)
    have hV : vc_X1_isScatter M := iteT hV c4
    refine lv_aload_n hx hb dX1_humPitch_11 rfl (lv_at hl 0 rfl) ?_
    have v12 : vc_X1_isScatter M := hV
    refine q_Ci (q_V (own := "MazeBoard$Game") (y := yX1_isScatter) (As := []) (rest := []) ⟨hx, hb, hml, hown, hB⟩ hK hE hC (c_X1_isScatter l D cy ad L H.size (hL.sub (by decide) (by decide)) M  v12) rfl (hL 1 (by decide) (by decide)) rfl mw_2_118 mw_2_120 mw_0_14 mw_1_2 mw_2_121 rfl yd_X1_isScatter ⟨rfl, rfl⟩ ⟨Nat.le_of_ble_eq_true rfl, Nat.le_of_ble_eq_true rfl⟩ rfl hl.1 rfl (Nat.le_of_ble_eq_true rfl) dX1_humPitch_12 ⟨Nat.le_refl _, Nat.le_refl _⟩) hC (fun r N_ H locs hp hC => ?_)
    obtain ⟨hr_, hM_⟩ := hp
    subst hr_
    rw [hM_] at hC
    refine lv_if_eq (tgt := 24) hx hb dX1_humPitch_15 (by decide) (fun c15 => ?_) (fun c15 => ?_)
    · have hT : sp_X1_humPitch M = sp_X1_humPitch_B35 (300 + (10 * (gI M 1 7))) := hT.trans (if_pos c15)
      refine lv_sipush (v := 300) hx hb dX1_humPitch_24 (by decide) ?_
      refine lv_bipush (v := 10) hx hb dX1_humPitch_27 (by decide) ?_
      refine lv_aload_n hx hb dX1_humPitch_29 rfl (lv_at hl 0 rfl) ?_
      refine q_geti (T := TX1) hx hb hB uw_X1 hown hK hC rfl (hL 1 (by decide) (by decide)) rfl 7 (by decide) rfl (hB _ mw_1_141) dX1_humPitch_30 ?_
      refine lv_imul hx hb dX1_humPitch_33 ?_
      refine lv_iadd hx hb dX1_humPitch_34 ?_
      exact J35 (300 + (10 * (gI M 1 7))) _ _ _  hT hC (lv_sub hl [] rfl)
    · have hT : sp_X1_humPitch M = sp_X1_humPitch_B35 300 := hT.trans (if_neg c15)
      refine lv_sipush (v := 300) hx hb dX1_humPitch_18 (by decide) ?_
      refine lv_goto (tgt := 35) hx hb dX1_humPitch_21 (by decide) ?_
      exact J35 300 _ _ _  hT hC (lv_sub hl [] rfl)
  · have hT : sp_X1_humPitch M = 600 := hT.trans (if_neg c4)
    refine lv_sipush (v := 600) hx hb dX1_humPitch_7 (by decide) ?_
    exact q_reti hx hb hr hlocks hC ⟨hT.symm, rfl⟩ dX1_humPitch_10
set_option maxHeartbeats 4000000 in
set_option maxRecDepth 100000 in
theorem c_X3_isMiddle (l : Launch) (D : va_G) (cy ad : Nat → Nat) (L : List Nat) (sz : Nat) (M : Mem) (a1 : Int32) (hV : vc_X3_isMiddle M a1) : Met l yX3_isMiddle (Cond.code yX3_isMiddle cX3_isMiddle 1 (some .boolean) :: BG) ({ frames := 0, cells := 0, slots := 0, locals := 0 }) (va_Pc [.int a1] (PW D cy ad L M sz)) (va_Qi (fun r N => r = sp_X3_isMiddle a1 ∧ N = M) (OW D cy ad L sz) (fA ad L sz)) 0 0 (fA ad L sz) := by
  refine q_start (by decide) (Nat.le_of_ble_eq_true rfl) (fun p e s m below meth c H locs ls hsz hx hb hr hlocks hml hown hB hK hE hC hl => ?_)
  subst hsz
  have hown : s.vm.findClass "MazeBoard$Picture" = some m.cls := hown
  have hl : lv_has ls 1 [(0, .int a1)] := hl
  have J15 : ∀ (x1 : Int32) (H : Heap) (locs : List Loc) (ls : Array Slot) (hT : sp_X3_isMiddle a1 = sp_X3_isMiddle_B15 x1) (hV : vc_X3_isMiddle_B15 x1) (hC : Cx D cy ad R0 L (fA ad L s.heap.size) s M H locs) (hl : lv_has ls 1 []), W p l e ({ frames := 0, cells := 0, slots := 0, locals := 0 }) s m ([.int a1] : List Value).toArray below meth c H locs 0 0 (MQ below (va_Qi (fun r N => r = sp_X3_isMiddle a1 ∧ N = M) (OW D cy ad L s.heap.size) (fA ad L s.heap.size)) ([.int a1] : List Value).toArray s 0 0 (fA ad L s.heap.size)) (F0 m 15 ls [.int x1]) := by
    intro x1 H locs ls  hT hV hC hl
    have hT : sp_X3_isMiddle a1 = x1 := hT
    have hV : (x1 = 0 ∨ x1 = 1) := hV
    have w15 : x1 = 0 ∨ x1 = 1 := hV
    exact q_retz hx hb hr hlocks hC w15 ⟨hT.symm, rfl⟩ dX3_isMiddle_15
  have J10 : ∀  (H : Heap) (locs : List Loc) (ls : Array Slot) (hT : sp_X3_isMiddle a1 = sp_X3_isMiddle_B10 ) (hV : vc_X3_isMiddle_B10 ) (hC : Cx D cy ad R0 L (fA ad L s.heap.size) s M H locs) (hl : lv_has ls 1 []), W p l e ({ frames := 0, cells := 0, slots := 0, locals := 0 }) s m ([.int a1] : List Value).toArray below meth c H locs 0 0 (MQ below (va_Qi (fun r N => r = sp_X3_isMiddle a1 ∧ N = M) (OW D cy ad L s.heap.size) (fA ad L s.heap.size)) ([.int a1] : List Value).toArray s 0 0 (fA ad L s.heap.size)) (F0 m 10 ls []) := by
    intro  H locs ls  hT hV hC hl
    have hT : sp_X3_isMiddle a1 = sp_X3_isMiddle_B15 1 := hT
    have hV : vc_X3_isMiddle_B15 1 := hV
    refine lv_iconst (v := 1) hx hb dX3_isMiddle_10 (by decide) ?_
    refine lv_goto (tgt := 15) hx hb dX3_isMiddle_11 (by decide) ?_
    exact J15 1 _ _ _  hT hV hC (lv_sub hl [] rfl)
  have hT : sp_X3_isMiddle a1 = if a1 = 1 then sp_X3_isMiddle_B10 else (if a1 = 2 then sp_X3_isMiddle_B10 else (sp_X3_isMiddle_B15 0)) := rfl
  have hV : if a1 = 1 then vc_X3_isMiddle_B10 else (if a1 = 2 then vc_X3_isMiddle_B10 else vc_X3_isMiddle_B15 0) := hV
  refine lv_iload_n hx hb dX3_isMiddle_0 rfl (lv_at hl 0 rfl) ?_
  refine lv_iconst (v := 1) hx hb dX3_isMiddle_1 (by decide) ?_
  refine lv_icmp_eq (tgt := 10) hx hb dX3_isMiddle_2 (by decide) (fun c2 => ?_) (fun c2 => ?_)
  · have hT : sp_X3_isMiddle a1 = sp_X3_isMiddle_B10 := hT.trans (if_pos c2)
    have hV : vc_X3_isMiddle_B10 := iteT hV c2
    exact J10  _ _ _  hT hV hC (lv_sub hl [] rfl)
  · have hT : sp_X3_isMiddle a1 = if a1 = 2 then sp_X3_isMiddle_B10 else (sp_X3_isMiddle_B15 0) := hT.trans (if_neg c2)
    have hV : if a1 = 2 then vc_X3_isMiddle_B10 else vc_X3_isMiddle_B15 0 := iteF hV c2
    refine lv_iload_n hx hb dX3_isMiddle_5 rfl (lv_at hl 0 rfl) ?_
    refine lv_iconst (v := 2) hx hb dX3_isMiddle_6 (by decide) ?_
    refine lv_icmp_ne (tgt := 14) hx hb dX3_isMiddle_7 (by decide) (fun c7 => ?_) (fun c7 => ?_)
    · have hT : sp_X3_isMiddle a1 = sp_X3_isMiddle_B15 0 := hT.trans (if_neg c7)
      have hV : vc_X3_isMiddle_B15 0 := iteF hV c7
      refine lv_iconst (v := 0) hx hb dX3_isMiddle_14 (by decide) ?_
      exact J15 0 _ _ _  hT hV hC (lv_sub hl [] rfl)
    · have hT : sp_X3_isMiddle a1 = sp_X3_isMiddle_B10 := hT.trans (if_pos c7)
      have hV : vc_X3_isMiddle_B10 := iteT hV c7
      exact J10  _ _ _  hT hV hC (lv_sub hl [] rfl)
set_option maxHeartbeats 4000000 in
set_option maxRecDepth 100000 in
theorem c_X3_tileColour (l : Launch) (D : va_G) (cy ad : Nat → Nat) (L : List Nat) (sz : Nat) (hL : lr 1 9 L) (M : Mem) (a2 : Int32) (a3 : Int32) (a4 : Int32) (hV : vc_X3_tileColour M a2 a3 a4) : Met l yX3_tileColour (Cond.code yX3_tileColour cX3_tileColour 6 (some .int) :: BG) ({ frames := 1, cells := 0, slots := 0, locals := 22 }) (va_Pc [.ref (ad 2), .int a2, .int a3, .int a4] (PW D cy ad L M sz)) (va_Qi (fun r N => r = sp_X3_tileColour M a2 a3 a4 ∧ N = M) (OW D cy ad L sz) (fA ad L sz)) 0 0 (fA ad L sz) := by
  refine q_start (by decide) (Nat.le_of_ble_eq_true rfl) (fun p e s m below meth c H locs ls hsz hx hb hr hlocks hml hown hB hK hE hC hl => ?_)
  subst hsz
  have hown : s.vm.findClass "MazeBoard$Picture" = some m.cls := hown
  have hl : lv_has ls 6 [(0, .ref (ad 2)), (1, .int a2), (2, .int a3), (3, .int a4)] := hl
  have J112 : ∀ (x6 : Int32) (H : Heap) (locs : List Loc) (ls : Array Slot) (hT : sp_X3_tileColour M a2 a3 a4 = sp_X3_tileColour_B112 x6) (hC : Cx D cy ad R0 L (fA ad L s.heap.size) s M H locs) (hl : lv_has ls 6 []), W p l e ({ frames := 1, cells := 0, slots := 0, locals := 22 }) s m ([.ref (ad 2), .int a2, .int a3, .int a4] : List Value).toArray below meth c H locs 0 0 (MQ below (va_Qi (fun r N => r = sp_X3_tileColour M a2 a3 a4 ∧ N = M) (OW D cy ad L s.heap.size) (fA ad L s.heap.size)) ([.ref (ad 2), .int a2, .int a3, .int a4] : List Value).toArray s 0 0 (fA ad L s.heap.size)) (F0 m 112 ls [.int x6]) := by
    intro x6 H locs ls  hT hC hl
    have hT : sp_X3_tileColour M a2 a3 a4 = x6 := hT
    exact q_reti hx hb hr hlocks hC ⟨hT.symm, rfl⟩ dX3_tileColour_112
  have J100 : ∀ (x5 : Int32) (H : Heap) (locs : List Loc) (ls : Array Slot) (hT : sp_X3_tileColour M a2 a3 a4 = sp_X3_tileColour_B100 x5) (hC : Cx D cy ad R0 L (fA ad L s.heap.size) s M H locs) (hl : lv_has ls 6 []), W p l e ({ frames := 1, cells := 0, slots := 0, locals := 22 }) s m ([.ref (ad 2), .int a2, .int a3, .int a4] : List Value).toArray below meth c H locs 0 0 (MQ below (va_Qi (fun r N => r = sp_X3_tileColour M a2 a3 a4 ∧ N = M) (OW D cy ad L s.heap.size) (fA ad L s.heap.size)) ([.ref (ad 2), .int a2, .int a3, .int a4] : List Value).toArray s 0 0 (fA ad L s.heap.size)) (F0 m 100 ls [.int x5]) := by
    intro x5 H locs ls  hT hC hl
    have hT : sp_X3_tileColour M a2 a3 a4 = x5 := hT
    exact q_reti hx hb hr hlocks hC ⟨hT.symm, rfl⟩ dX3_tileColour_100
  have J99 : ∀  (H : Heap) (locs : List Loc) (ls : Array Slot) (hT : sp_X3_tileColour M a2 a3 a4 = sp_X3_tileColour_B99 ) (hC : Cx D cy ad R0 L (fA ad L s.heap.size) s M H locs) (hl : lv_has ls 6 []), W p l e ({ frames := 1, cells := 0, slots := 0, locals := 22 }) s m ([.ref (ad 2), .int a2, .int a3, .int a4] : List Value).toArray below meth c H locs 0 0 (MQ below (va_Qi (fun r N => r = sp_X3_tileColour M a2 a3 a4 ∧ N = M) (OW D cy ad L s.heap.size) (fA ad L s.heap.size)) ([.ref (ad 2), .int a2, .int a3, .int a4] : List Value).toArray s 0 0 (fA ad L s.heap.size)) (F0 m 99 ls []) := by
    intro  H locs ls  hT hC hl
    have hT : sp_X3_tileColour M a2 a3 a4 = sp_X3_tileColour_B100 0 := hT
    refine lv_iconst (v := 0) hx hb dX3_tileColour_99 (by decide) ?_
    exact J100 0 _ _ _  hT hC (lv_sub hl [] rfl)
  have J71 : ∀ (x4 : Int32) (H : Heap) (locs : List Loc) (ls : Array Slot) (hT : sp_X3_tileColour M a2 a3 a4 = sp_X3_tileColour_B71 x4) (hC : Cx D cy ad R0 L (fA ad L s.heap.size) s M H locs) (hl : lv_has ls 6 []), W p l e ({ frames := 1, cells := 0, slots := 0, locals := 22 }) s m ([.ref (ad 2), .int a2, .int a3, .int a4] : List Value).toArray below meth c H locs 0 0 (MQ below (va_Qi (fun r N => r = sp_X3_tileColour M a2 a3 a4 ∧ N = M) (OW D cy ad L s.heap.size) (fA ad L s.heap.size)) ([.ref (ad 2), .int a2, .int a3, .int a4] : List Value).toArray s 0 0 (fA ad L s.heap.size)) (F0 m 71 ls [.int x4]) := by
    intro x4 H locs ls  hT hC hl
    have hT : sp_X3_tileColour M a2 a3 a4 = x4 := hT
    exact q_reti hx hb hr hlocks hC ⟨hT.symm, rfl⟩ dX3_tileColour_71
  have J70 : ∀  (H : Heap) (locs : List Loc) (ls : Array Slot) (hT : sp_X3_tileColour M a2 a3 a4 = sp_X3_tileColour_B70 ) (hC : Cx D cy ad R0 L (fA ad L s.heap.size) s M H locs) (hl : lv_has ls 6 []), W p l e ({ frames := 1, cells := 0, slots := 0, locals := 22 }) s m ([.ref (ad 2), .int a2, .int a3, .int a4] : List Value).toArray below meth c H locs 0 0 (MQ below (va_Qi (fun r N => r = sp_X3_tileColour M a2 a3 a4 ∧ N = M) (OW D cy ad L s.heap.size) (fA ad L s.heap.size)) ([.ref (ad 2), .int a2, .int a3, .int a4] : List Value).toArray s 0 0 (fA ad L s.heap.size)) (F0 m 70 ls []) := by
    intro  H locs ls  hT hC hl
    have hT : sp_X3_tileColour M a2 a3 a4 = sp_X3_tileColour_B71 0 := hT
    refine lv_iconst (v := 0) hx hb dX3_tileColour_70 (by decide) ?_
    exact J71 0 _ _ _  hT hC (lv_sub hl [] rfl)
  have hT : sp_X3_tileColour M a2 a3 a4 = sp_X3_tileColour_n3 M a2 a3 a4 (a2 - a2 / 4 * 4) := rfl
  have hV : vc_X3_tileColour_n3 M a2 a3 a4 (a2 - a2 / 4 * 4) := hV
  refine lv_iload_n hx hb dX3_tileColour_0 rfl (lv_at hl 1 rfl) ?_
  refine lv_iconst (v := 4) hx hb dX3_tileColour_1 (by decide) ?_
  refine lv_irem hx hb dX3_tileColour_2 (by decide) ?_
  refine lv_topi (fun x1 ex1 => ?_)
  have hT : sp_X3_tileColour M a2 a3 a4 = sp_X3_tileColour_n3 M a2 a3 a4 x1 := by rw [ex1]; exact hT
  have hV : vc_X3_tileColour_n3 M a2 a3 a4 x1 := by rw [ex1]; exact hV
  refine lv_istore (lv' := [(4, .int x1), (0, .ref (ad 2)), (1, .int a2), (2, .int a3), (3, .int a4)]) hx hb dX3_tileColour_3 hl (by decide) rfl (fun ls hl => ?_)
  refine lv_iload_n hx hb dX3_tileColour_5 rfl (lv_at hl 3 rfl) ?_
  refine lv_iconst (v := 4) hx hb dX3_tileColour_6 (by decide) ?_
  refine lv_irem hx hb dX3_tileColour_7 (by decide) ?_
  refine lv_topi (fun x2 ex2 => ?_)
  have hT : sp_X3_tileColour M a2 a3 a4 = sp_X3_tileColour_n2 M a2 a3 a4 x1 x2 := by rw [ex2]; exact hT
  have hV : vc_X3_tileColour_n2 M a2 a3 a4 x1 x2 := by rw [ex2]; exact hV
  refine lv_istore (lv' := [(5, .int x2), (4, .int x1), (0, .ref (ad 2)), (1, .int a2), (2, .int a3), (3, .int a4)]) hx hb dX3_tileColour_8 hl (by decide) rfl (fun ls hl => ?_)
  refine lv_aload_n hx hb dX3_tileColour_10 rfl (lv_at hl 2 rfl) ?_
  refine lv_iload_n hx hb dX3_tileColour_11 rfl (lv_at hl 3 rfl) ?_
  refine lv_iconst (v := 4) hx hb dX3_tileColour_12 (by decide) ?_
  refine lv_idiv hx hb dX3_tileColour_13 (by decide) ?_
  refine lv_iload_n hx hb dX3_tileColour_14 rfl (lv_at hl 4 rfl) ?_
  refine lv_iconst (v := 4) hx hb dX3_tileColour_15 (by decide) ?_
  refine lv_idiv hx hb dX3_tileColour_16 (by decide) ?_
  obtain ⟨v17, hV⟩ : (vc_X2_whatIs M (a2 / 4) (a3 / 4)) ∧ (vc_X3_tileColour_n1 M a4 x1 x2 (sp_X2_whatIs M (a2 / 4) (a3 / 4))) := hV
  refine q_Ci (q_V (own := "MazeBoard$Picture") (y := yX2_whatIs) (As := [.int (a2 / 4), .int (a3 / 4)]) (rest := []) ⟨hx, hb, hml, hown, hB⟩ hK hE hC (c_X2_whatIs l D cy ad L H.size (hL.sub (by decide) (by decide)) M (a2 / 4) (a3 / 4) v17) rfl (hL 2 (by decide) (by decide)) rfl mw_3_4 mw_2_53 mw_2_54 mw_1_3 mw_2_55 rfl yd_X2_whatIs ⟨rfl, rfl⟩ ⟨Nat.le_of_ble_eq_true rfl, Nat.le_of_ble_eq_true rfl⟩ rfl hl.1 rfl (Nat.le_of_ble_eq_true rfl) dX3_tileColour_17 ⟨Nat.le_refl _, Nat.le_refl _⟩) hC (fun r N_ H locs hp hC => ?_)
  obtain ⟨hr_, hM_⟩ := hp
  subst hr_
  rw [hM_] at hC
  refine lv_topi (fun x3 ex3 => ?_)
  have hT : sp_X3_tileColour M a2 a3 a4 = sp_X3_tileColour_n1 M a4 x1 x2 x3 := by rw [ex3]; exact hT
  have hV : vc_X3_tileColour_n1 M a4 x1 x2 x3 := by rw [ex3]; exact hV
  by_cases c20_1 : x3 = 1
  · have hT : sp_X3_tileColour M a2 a3 a4 = 1 := hT.trans (if_pos c20_1)
    refine lv_tableIn (tgt := 52) hx hb dX3_tileColour_20 (by rw [c20_1]; decide) (by rw [c20_1]; decide) (by rw [c20_1]; rfl) (by decide) ?_
    refine lv_iconst (v := 1) hx hb dX3_tileColour_52 (by decide) ?_
    exact q_reti hx hb hr hlocks hC ⟨hT.symm, rfl⟩ dX3_tileColour_53
  replace hT := hT.trans (if_neg c20_1)
  replace hV := iteF hV c20_1
  by_cases c20_2 : x3 = 2
  · have hT : sp_X3_tileColour M a2 a3 a4 = if x1 = 1 then (if x2 = 1 then (sp_X3_tileColour_B71 2) else sp_X3_tileColour_B70) else sp_X3_tileColour_B70 := hT.trans (if_pos c20_2)
    refine lv_tableIn (tgt := 54) hx hb dX3_tileColour_20 (by rw [c20_2]; decide) (by rw [c20_2]; decide) (by rw [c20_2]; rfl) (by decide) ?_
    refine lv_iload hx hb dX3_tileColour_54 (lv_at hl 1 rfl) ?_
    refine lv_iconst (v := 1) hx hb dX3_tileColour_56 (by decide) ?_
    refine lv_icmp_ne (tgt := 70) hx hb dX3_tileColour_57 (by decide) (fun c57 => ?_) (fun c57 => ?_)
    · have hT : sp_X3_tileColour M a2 a3 a4 = sp_X3_tileColour_B70 := hT.trans (if_neg c57)
      exact J70  _ _ _  hT hC (lv_sub hl [] rfl)
    · have hT : sp_X3_tileColour M a2 a3 a4 = if x2 = 1 then (sp_X3_tileColour_B71 2) else sp_X3_tileColour_B70 := hT.trans (if_pos c57)
      refine lv_iload hx hb dX3_tileColour_60 (lv_at hl 0 rfl) ?_
      refine lv_iconst (v := 1) hx hb dX3_tileColour_62 (by decide) ?_
      refine lv_icmp_ne (tgt := 70) hx hb dX3_tileColour_63 (by decide) (fun c63 => ?_) (fun c63 => ?_)
      · have hT : sp_X3_tileColour M a2 a3 a4 = sp_X3_tileColour_B70 := hT.trans (if_neg c63)
        exact J70  _ _ _  hT hC (lv_sub hl [] rfl)
      · have hT : sp_X3_tileColour M a2 a3 a4 = sp_X3_tileColour_B71 2 := hT.trans (if_pos c63)
        refine lv_iconst (v := 2) hx hb dX3_tileColour_66 (by decide) ?_
        refine lv_goto (tgt := 71) hx hb dX3_tileColour_67 (by decide) ?_
        exact J71 2 _ _ _  hT hC (lv_sub hl [] rfl)
  replace hT := hT.trans (if_neg c20_2)
  replace hV := iteF hV c20_2
  by_cases c20_3 : x3 = 3
  · have hT : sp_X3_tileColour M a2 a3 a4 = if (sp_X3_isMiddle x1) = 0 then sp_X3_tileColour_B99 else (if (sp_X3_isMiddle x2) = 0 then sp_X3_tileColour_B99 else (if (a4 &&& 8) = 0 then (sp_X3_tileColour_B100 2) else sp_X3_tileColour_B99)) := hT.trans (if_pos c20_3)
    have hV : vc_X3_isMiddle M x1 ∧ (if (sp_X3_isMiddle x1) = 0 then True else vc_X3_isMiddle M x2) := iteT hV c20_3
    refine lv_tableIn (tgt := 72) hx hb dX3_tileColour_20 (by rw [c20_3]; decide) (by rw [c20_3]; decide) (by rw [c20_3]; rfl) (by decide) ?_
    refine lv_iload hx hb dX3_tileColour_72 (lv_at hl 1 rfl) ?_
    obtain ⟨v74, hV⟩ : vc_X3_isMiddle M x1 ∧ (if (sp_X3_isMiddle x1) = 0 then True else vc_X3_isMiddle M x2) := hV
    refine q_Ci (q_S (own := "MazeBoard$Picture") (y := yX3_isMiddle) (As := [.int x1]) (rest := []) ⟨hx, hb, hml, hown, hB⟩ hK hE hC (c_X3_isMiddle l D cy ad L H.size M x1 v74) mw_2_232 mw_2_233 mw_1_9 mw_2_234 yd_X3_isMiddle ⟨rfl, rfl⟩ ⟨Nat.le_of_ble_eq_true rfl, Nat.le_of_ble_eq_true rfl⟩ rfl hl.1 rfl (Nat.le_of_ble_eq_true rfl) dX3_tileColour_74 ⟨Nat.le_refl _, Nat.le_refl _⟩) hC (fun r N_ H locs hp hC => ?_)
    obtain ⟨hr_, hM_⟩ := hp
    subst hr_
    rw [hM_] at hC
    refine lv_if_eq (tgt := 99) hx hb dX3_tileColour_77 (by decide) (fun c77 => ?_) (fun c77 => ?_)
    · have hT : sp_X3_tileColour M a2 a3 a4 = sp_X3_tileColour_B99 := hT.trans (if_pos c77)
      exact J99  _ _ _  hT hC (lv_sub hl [] rfl)
    · have hT : sp_X3_tileColour M a2 a3 a4 = if (sp_X3_isMiddle x2) = 0 then sp_X3_tileColour_B99 else (if (a4 &&& 8) = 0 then (sp_X3_tileColour_B100 2) else sp_X3_tileColour_B99) := hT.trans (if_neg c77)
      have hV : vc_X3_isMiddle M x2 := iteF hV c77
      refine lv_iload hx hb dX3_tileColour_80 (lv_at hl 0 rfl) ?_
      have v82 : vc_X3_isMiddle M x2 := hV
      refine q_Ci (q_S (own := "MazeBoard$Picture") (y := yX3_isMiddle) (As := [.int x2]) (rest := []) ⟨hx, hb, hml, hown, hB⟩ hK hE hC (c_X3_isMiddle l D cy ad L H.size M x2 v82) mw_2_232 mw_2_233 mw_1_9 mw_2_234 yd_X3_isMiddle ⟨rfl, rfl⟩ ⟨Nat.le_of_ble_eq_true rfl, Nat.le_of_ble_eq_true rfl⟩ rfl hl.1 rfl (Nat.le_of_ble_eq_true rfl) dX3_tileColour_82 ⟨Nat.le_refl _, Nat.le_refl _⟩) hC (fun r N_ H locs hp hC => ?_)
      obtain ⟨hr_, hM_⟩ := hp
      subst hr_
      rw [hM_] at hC
      refine lv_if_eq (tgt := 99) hx hb dX3_tileColour_85 (by decide) (fun c85 => ?_) (fun c85 => ?_)
      · have hT : sp_X3_tileColour M a2 a3 a4 = sp_X3_tileColour_B99 := hT.trans (if_pos c85)
        exact J99  _ _ _  hT hC (lv_sub hl [] rfl)
      · have hT : sp_X3_tileColour M a2 a3 a4 = if (a4 &&& 8) = 0 then (sp_X3_tileColour_B100 2) else sp_X3_tileColour_B99 := hT.trans (if_neg c85)
        refine lv_iload_n hx hb dX3_tileColour_88 rfl (lv_at hl 5 rfl) ?_
        refine lv_bipush (v := 8) hx hb dX3_tileColour_89 (by decide) ?_
        refine lv_iand hx hb dX3_tileColour_91 ?_
        refine lv_if_ne (tgt := 99) hx hb dX3_tileColour_92 (by decide) (fun c92 => ?_) (fun c92 => ?_)
        · have hT : sp_X3_tileColour M a2 a3 a4 = sp_X3_tileColour_B99 := hT.trans (if_neg c92)
          exact J99  _ _ _  hT hC (lv_sub hl [] rfl)
        · have hT : sp_X3_tileColour M a2 a3 a4 = sp_X3_tileColour_B100 2 := hT.trans (if_pos c92)
          refine lv_iconst (v := 2) hx hb dX3_tileColour_95 (by decide) ?_
          refine lv_goto (tgt := 100) hx hb dX3_tileColour_96 (by decide) ?_
          exact J100 2 _ _ _  hT hC (lv_sub hl [] rfl)
  replace hT := hT.trans (if_neg c20_3)
  replace hV := iteF hV c20_3
  by_cases c20_4 : x3 = 4
  · have hT : sp_X3_tileColour M a2 a3 a4 = if x2 = 0 then (sp_X3_tileColour_B112 9) else (sp_X3_tileColour_B112 0) := hT.trans (if_pos c20_4)
    refine lv_tableIn (tgt := 101) hx hb dX3_tileColour_20 (by rw [c20_4]; decide) (by rw [c20_4]; decide) (by rw [c20_4]; rfl) (by decide) ?_
    refine lv_iload hx hb dX3_tileColour_101 (lv_at hl 0 rfl) ?_
    refine lv_if_ne (tgt := 111) hx hb dX3_tileColour_103 (by decide) (fun c103 => ?_) (fun c103 => ?_)
    · have hT : sp_X3_tileColour M a2 a3 a4 = sp_X3_tileColour_B112 0 := hT.trans (if_neg c103)
      refine lv_iconst (v := 0) hx hb dX3_tileColour_111 (by decide) ?_
      exact J112 0 _ _ _  hT hC (lv_sub hl [] rfl)
    · have hT : sp_X3_tileColour M a2 a3 a4 = sp_X3_tileColour_B112 9 := hT.trans (if_pos c103)
      refine lv_bipush (v := 9) hx hb dX3_tileColour_106 (by decide) ?_
      refine lv_goto (tgt := 112) hx hb dX3_tileColour_108 (by decide) ?_
      exact J112 9 _ _ _  hT hC (lv_sub hl [] rfl)
  replace hT := hT.trans (if_neg c20_4)
  replace hV := iteF hV c20_4
  have hT : sp_X3_tileColour M a2 a3 a4 = 0 := hT
  refine lv_tableOut (tgt := 113) hx hb dX3_tileColour_20 (by have u0 : x3.toInt ≠ 1 := fun z => c20_1 (Int32.toInt_inj.mp (by rw [z]; rfl)); have u1 : x3.toInt ≠ 2 := fun z => c20_2 (Int32.toInt_inj.mp (by rw [z]; rfl)); have u2 : x3.toInt ≠ 3 := fun z => c20_3 (Int32.toInt_inj.mp (by rw [z]; rfl)); have u3 : x3.toInt ≠ 4 := fun z => c20_4 (Int32.toInt_inj.mp (by rw [z]; rfl)); omega) (by decide) ?_
  refine lv_iconst (v := 0) hx hb dX3_tileColour_113 (by decide) ?_
  exact q_reti hx hb hr hlocks hC ⟨hT.symm, rfl⟩ dX3_tileColour_114
set_option maxHeartbeats 4000000 in
set_option maxRecDepth 100000 in
theorem c_X3_spriteColour (l : Launch) (D : va_G) (cy ad : Nat → Nat) (L : List Nat) (sz : Nat) (hL : lr 1 9 L) (M : Mem) (b1 : Nat) (hb1 : isA b1) (a2 : Int32) : Met l yX3_spriteColour (Cond.code yX3_spriteColour cX3_spriteColour 2 (some .int) :: BG) ({ frames := 0, cells := 0, slots := 0, locals := 0 }) (va_Pc [.ref (ad b1), .int a2] (PW D cy ad L M sz)) (va_Qi (fun r N => r = sp_X3_spriteColour M b1 a2 ∧ N = M) (OW D cy ad L sz) (fA ad L sz)) 0 0 (fA ad L sz) := by
  refine q_start (by decide) (Nat.le_of_ble_eq_true rfl) (fun p e s m below meth c H locs ls hsz hx hb hr hlocks hml hown hB hK hE hC hl => ?_)
  subst hsz
  have hown : s.vm.findClass "MazeBoard$Picture" = some m.cls := hown
  have hl : lv_has ls 2 [(0, .ref (ad b1)), (1, .int a2)] := hl
  have J15 : ∀ (x1 : Int32) (H : Heap) (locs : List Loc) (ls : Array Slot) (hT : sp_X3_spriteColour M b1 a2 = sp_X3_spriteColour_B15 x1) (hC : Cx D cy ad R0 L (fA ad L s.heap.size) s M H locs) (hl : lv_has ls 2 []), W p l e ({ frames := 0, cells := 0, slots := 0, locals := 0 }) s m ([.ref (ad b1), .int a2] : List Value).toArray below meth c H locs 0 0 (MQ below (va_Qi (fun r N => r = sp_X3_spriteColour M b1 a2 ∧ N = M) (OW D cy ad L s.heap.size) (fA ad L s.heap.size)) ([.ref (ad b1), .int a2] : List Value).toArray s 0 0 (fA ad L s.heap.size)) (F0 m 15 ls [.int x1]) := by
    intro x1 H locs ls  hT hC hl
    have hT : sp_X3_spriteColour M b1 a2 = x1 := hT
    exact q_reti hx hb hr hlocks hC ⟨hT.symm, rfl⟩ dX3_spriteColour_15
  have hT : sp_X3_spriteColour M b1 a2 = if (gI M b1 4) = 0 then (sp_X3_spriteColour_B15 (3 + a2)) else (sp_X3_spriteColour_B15 8) := rfl
  refine lv_aload_n hx hb dX3_spriteColour_0 rfl (lv_at hl 0 rfl) ?_
  refine q_geti (T := TX0) hx hb hB uw_X0 hown hK hC (isA.sh hb1) (hL _ (Nat.le_trans (by decide) (hb1).1) (Nat.le_trans (hb1).2 (by decide))) rfl 4 (by decide) rfl (hB _ mw_1_66) dX3_spriteColour_1 ?_
  refine lv_if_eq (tgt := 12) hx hb dX3_spriteColour_4 (by decide) (fun c4 => ?_) (fun c4 => ?_)
  · have hT : sp_X3_spriteColour M b1 a2 = sp_X3_spriteColour_B15 (3 + a2) := hT.trans (if_pos c4)
    refine lv_iconst (v := 3) hx hb dX3_spriteColour_12 (by decide) ?_
    refine lv_iload_n hx hb dX3_spriteColour_13 rfl (lv_at hl 1 rfl) ?_
    refine lv_iadd hx hb dX3_spriteColour_14 ?_
    exact J15 (3 + a2) _ _ _  hT hC (lv_sub hl [] rfl)
  · have hT : sp_X3_spriteColour M b1 a2 = sp_X3_spriteColour_B15 8 := hT.trans (if_neg c4)
    refine lv_bipush (v := 8) hx hb dX3_spriteColour_7 (by decide) ?_
    refine lv_goto (tgt := 15) hx hb dX3_spriteColour_9 (by decide) ?_
    exact J15 8 _ _ _  hT hC (lv_sub hl [] rfl)
set_option maxHeartbeats 4000000 in
set_option maxRecDepth 100000 in
theorem c_J9_floorMod_7cf53 (l : Launch) (D : va_G) (cy ad : Nat → Nat) (L : List Nat) (sz : Nat) (M : Mem) (a1 : Int32) (a2 : Int32) (hV : vc_J9_floorMod_7cf53 M a1 a2) : Met l yJ9_floorMod_7cf53 (Cond.code yJ9_floorMod_7cf53 cJ9_floorMod_7cf53 3 (some .int) :: BG) ({ frames := 0, cells := 0, slots := 0, locals := 0 }) (va_Pc [.int a1, .int a2] (PW D cy ad L M sz)) (va_Qi (fun r N => r = sp_J9_floorMod_7cf53 a1 a2 ∧ N = M) (OW D cy ad L sz) (fA ad L sz)) 0 0 (fA ad L sz) := by
  refine q_startF (by decide +kernel) (Nat.le_of_ble_eq_true rfl) (fun p e s m below meth c H locs ls hsz hx hb hr hlocks hml hown hB hK hE hC hl => ?_)
  subst hsz
  have hown : s.vm.findClass "java/lang/Math" = some m.cls := hown
  have hl : lv_has ls 3 [(0, .int a1), (1, .int a2)] := hl
  have J18 : ∀ (x1 : Int32) (H : Heap) (locs : List Loc) (ls : Array Slot) (hT : sp_J9_floorMod_7cf53 a1 a2 = sp_J9_floorMod_7cf53_B18 x1) (hC : Cx D cy ad R0 L (fA ad L s.heap.size) s M H locs) (hl : lv_has ls 3 [(2, .int x1)]), W p l e ({ frames := 0, cells := 0, slots := 0, locals := 0 }) s m ([.int a1, .int a2] : List Value).toArray below meth c H locs 0 0 (MQ below (va_Qi (fun r N => r = sp_J9_floorMod_7cf53 a1 a2 ∧ N = M) (OW D cy ad L s.heap.size) (fA ad L s.heap.size)) ([.int a1, .int a2] : List Value).toArray s 0 0 (fA ad L s.heap.size)) (F0 m 18 ls []) := by
    intro x1 H locs ls  hT hC hl
    have hT : sp_J9_floorMod_7cf53 a1 a2 = x1 := hT
    refine lv_iload_n hx hb dJ9_floorMod_7cf53_18 rfl (lv_at hl 0 rfl) ?_
    exact q_reti hx hb hr hlocks hC ⟨hT.symm, rfl⟩ dJ9_floorMod_7cf53_19
  have hT : sp_J9_floorMod_7cf53 a1 a2 = sp_J9_floorMod_7cf53_n1 a1 a2 (a1 - a1 / a2 * a2) := rfl
  have hV : (¬ a2 = 0) := hV
  refine lv_iload_n hx hb dJ9_floorMod_7cf53_0 rfl (lv_at hl 0 rfl) ?_
  refine lv_iload_n hx hb dJ9_floorMod_7cf53_1 rfl (lv_at hl 1 rfl) ?_
  have w2 : ¬ a2 = 0 := hV
  refine lv_irem hx hb dJ9_floorMod_7cf53_2 w2 ?_
  refine lv_topi (fun x1 ex1 => ?_)
  have hT : sp_J9_floorMod_7cf53 a1 a2 = sp_J9_floorMod_7cf53_n1 a1 a2 x1 := by rw [ex1]; exact hT
  refine lv_istore_n (lv' := [(2, .int x1), (0, .int a1), (1, .int a2)]) hx hb dJ9_floorMod_7cf53_3 rfl hl (by decide) rfl (fun ls hl => ?_)
  refine lv_iload_n hx hb dJ9_floorMod_7cf53_4 rfl (lv_at hl 1 rfl) ?_
  refine lv_iload_n hx hb dJ9_floorMod_7cf53_5 rfl (lv_at hl 2 rfl) ?_
  refine lv_ixor hx hb dJ9_floorMod_7cf53_6 ?_
  refine lv_if_ge (tgt := 18) hx hb dJ9_floorMod_7cf53_7 (by decide) (fun c7 => ?_) (fun c7 => ?_)
  · have hT : sp_J9_floorMod_7cf53 a1 a2 = sp_J9_floorMod_7cf53_B18 x1 := hT.trans (if_pos c7)
    exact J18 x1 _ _ _  hT hC (lv_sub hl [0] rfl)
  · have hT : sp_J9_floorMod_7cf53 a1 a2 = if x1 = 0 then (sp_J9_floorMod_7cf53_B18 x1) else (x1 + a2) := hT.trans (if_neg c7)
    refine lv_iload_n hx hb dJ9_floorMod_7cf53_10 rfl (lv_at hl 0 rfl) ?_
    refine lv_if_eq (tgt := 18) hx hb dJ9_floorMod_7cf53_11 (by decide) (fun c11 => ?_) (fun c11 => ?_)
    · have hT : sp_J9_floorMod_7cf53 a1 a2 = sp_J9_floorMod_7cf53_B18 x1 := hT.trans (if_pos c11)
      exact J18 x1 _ _ _  hT hC (lv_sub hl [0] rfl)
    · have hT : sp_J9_floorMod_7cf53 a1 a2 = x1 + a2 := hT.trans (if_neg c11)
      refine lv_iload_n hx hb dJ9_floorMod_7cf53_14 rfl (lv_at hl 0 rfl) ?_
      refine lv_iload_n hx hb dJ9_floorMod_7cf53_15 rfl (lv_at hl 2 rfl) ?_
      refine lv_iadd hx hb dJ9_floorMod_7cf53_16 ?_
      exact q_reti hx hb hr hlocks hC ⟨hT.symm, rfl⟩ dJ9_floorMod_7cf53_17
set_option maxHeartbeats 4000000 in
set_option maxRecDepth 100000 in
theorem c_X3_isMouth (l : Launch) (D : va_G) (cy ad : Nat → Nat) (L : List Nat) (sz : Nat) (M : Mem) (a1 : Int32) (a2 : Int32) (a3 : Int32) (hV : vc_X3_isMouth M a1 a2 a3) : Met l yX3_isMouth (Cond.code yX3_isMouth cX3_isMouth 3 (some .boolean) :: BG) ({ frames := 1, cells := 0, slots := 0, locals := 20 }) (va_Pc [.int a1, .int a2, .int a3] (PW D cy ad L M sz)) (va_Qi (fun r N => r = sp_X3_isMouth a1 a2 a3 ∧ N = M) (OW D cy ad L sz) (fA ad L sz)) 0 0 (fA ad L sz) := by
  refine q_start (by decide) (Nat.le_of_ble_eq_true rfl) (fun p e s m below meth c H locs ls hsz hx hb hr hlocks hml hown hB hK hE hC hl => ?_)
  subst hsz
  have hown : s.vm.findClass "MazeBoard$Picture" = some m.cls := hown
  have hl : lv_has ls 3 [(0, .int a1), (1, .int a2), (2, .int a3)] := hl
  have J97 : ∀ (x4 : Int32) (H : Heap) (locs : List Loc) (ls : Array Slot) (hT : sp_X3_isMouth a1 a2 a3 = sp_X3_isMouth_B97 x4) (hV : vc_X3_isMouth_B97 x4) (hC : Cx D cy ad R0 L (fA ad L s.heap.size) s M H locs) (hl : lv_has ls 3 []), W p l e ({ frames := 1, cells := 0, slots := 0, locals := 20 }) s m ([.int a1, .int a2, .int a3] : List Value).toArray below meth c H locs 0 0 (MQ below (va_Qi (fun r N => r = sp_X3_isMouth a1 a2 a3 ∧ N = M) (OW D cy ad L s.heap.size) (fA ad L s.heap.size)) ([.int a1, .int a2, .int a3] : List Value).toArray s 0 0 (fA ad L s.heap.size)) (F0 m 97 ls [.int x4]) := by
    intro x4 H locs ls  hT hV hC hl
    have hT : sp_X3_isMouth a1 a2 a3 = x4 := hT
    have hV : (x4 = 0 ∨ x4 = 1) := hV
    have w97 : x4 = 0 ∨ x4 = 1 := hV
    exact q_retz hx hb hr hlocks hC w97 ⟨hT.symm, rfl⟩ dX3_isMouth_97
  have J96 : ∀  (H : Heap) (locs : List Loc) (ls : Array Slot) (hT : sp_X3_isMouth a1 a2 a3 = sp_X3_isMouth_B96 ) (hV : vc_X3_isMouth_B96 ) (hC : Cx D cy ad R0 L (fA ad L s.heap.size) s M H locs) (hl : lv_has ls 3 []), W p l e ({ frames := 1, cells := 0, slots := 0, locals := 20 }) s m ([.int a1, .int a2, .int a3] : List Value).toArray below meth c H locs 0 0 (MQ below (va_Qi (fun r N => r = sp_X3_isMouth a1 a2 a3 ∧ N = M) (OW D cy ad L s.heap.size) (fA ad L s.heap.size)) ([.int a1, .int a2, .int a3] : List Value).toArray s 0 0 (fA ad L s.heap.size)) (F0 m 96 ls []) := by
    intro  H locs ls  hT hV hC hl
    have hT : sp_X3_isMouth a1 a2 a3 = sp_X3_isMouth_B97 0 := hT
    have hV : vc_X3_isMouth_B97 0 := hV
    refine lv_iconst (v := 0) hx hb dX3_isMouth_96 (by decide) ?_
    exact J97 0 _ _ _  hT hV hC (lv_sub hl [] rfl)
  have J79 : ∀ (x3 : Int32) (H : Heap) (locs : List Loc) (ls : Array Slot) (hT : sp_X3_isMouth a1 a2 a3 = sp_X3_isMouth_B79 x3) (hV : vc_X3_isMouth_B79 x3) (hC : Cx D cy ad R0 L (fA ad L s.heap.size) s M H locs) (hl : lv_has ls 3 []), W p l e ({ frames := 1, cells := 0, slots := 0, locals := 20 }) s m ([.int a1, .int a2, .int a3] : List Value).toArray below meth c H locs 0 0 (MQ below (va_Qi (fun r N => r = sp_X3_isMouth a1 a2 a3 ∧ N = M) (OW D cy ad L s.heap.size) (fA ad L s.heap.size)) ([.int a1, .int a2, .int a3] : List Value).toArray s 0 0 (fA ad L s.heap.size)) (F0 m 79 ls [.int x3]) := by
    intro x3 H locs ls  hT hV hC hl
    have hT : sp_X3_isMouth a1 a2 a3 = x3 := hT
    have hV : (x3 = 0 ∨ x3 = 1) := hV
    have w79 : x3 = 0 ∨ x3 = 1 := hV
    exact q_retz hx hb hr hlocks hC w79 ⟨hT.symm, rfl⟩ dX3_isMouth_79
  have J78 : ∀  (H : Heap) (locs : List Loc) (ls : Array Slot) (hT : sp_X3_isMouth a1 a2 a3 = sp_X3_isMouth_B78 ) (hV : vc_X3_isMouth_B78 ) (hC : Cx D cy ad R0 L (fA ad L s.heap.size) s M H locs) (hl : lv_has ls 3 []), W p l e ({ frames := 1, cells := 0, slots := 0, locals := 20 }) s m ([.int a1, .int a2, .int a3] : List Value).toArray below meth c H locs 0 0 (MQ below (va_Qi (fun r N => r = sp_X3_isMouth a1 a2 a3 ∧ N = M) (OW D cy ad L s.heap.size) (fA ad L s.heap.size)) ([.int a1, .int a2, .int a3] : List Value).toArray s 0 0 (fA ad L s.heap.size)) (F0 m 78 ls []) := by
    intro  H locs ls  hT hV hC hl
    have hT : sp_X3_isMouth a1 a2 a3 = sp_X3_isMouth_B79 0 := hT
    have hV : vc_X3_isMouth_B79 0 := hV
    refine lv_iconst (v := 0) hx hb dX3_isMouth_78 (by decide) ?_
    exact J79 0 _ _ _  hT hV hC (lv_sub hl [] rfl)
  have J61 : ∀ (x2 : Int32) (H : Heap) (locs : List Loc) (ls : Array Slot) (hT : sp_X3_isMouth a1 a2 a3 = sp_X3_isMouth_B61 x2) (hV : vc_X3_isMouth_B61 x2) (hC : Cx D cy ad R0 L (fA ad L s.heap.size) s M H locs) (hl : lv_has ls 3 []), W p l e ({ frames := 1, cells := 0, slots := 0, locals := 20 }) s m ([.int a1, .int a2, .int a3] : List Value).toArray below meth c H locs 0 0 (MQ below (va_Qi (fun r N => r = sp_X3_isMouth a1 a2 a3 ∧ N = M) (OW D cy ad L s.heap.size) (fA ad L s.heap.size)) ([.int a1, .int a2, .int a3] : List Value).toArray s 0 0 (fA ad L s.heap.size)) (F0 m 61 ls [.int x2]) := by
    intro x2 H locs ls  hT hV hC hl
    have hT : sp_X3_isMouth a1 a2 a3 = x2 := hT
    have hV : (x2 = 0 ∨ x2 = 1) := hV
    have w61 : x2 = 0 ∨ x2 = 1 := hV
    exact q_retz hx hb hr hlocks hC w61 ⟨hT.symm, rfl⟩ dX3_isMouth_61
  have J60 : ∀  (H : Heap) (locs : List Loc) (ls : Array Slot) (hT : sp_X3_isMouth a1 a2 a3 = sp_X3_isMouth_B60 ) (hV : vc_X3_isMouth_B60 ) (hC : Cx D cy ad R0 L (fA ad L s.heap.size) s M H locs) (hl : lv_has ls 3 []), W p l e ({ frames := 1, cells := 0, slots := 0, locals := 20 }) s m ([.int a1, .int a2, .int a3] : List Value).toArray below meth c H locs 0 0 (MQ below (va_Qi (fun r N => r = sp_X3_isMouth a1 a2 a3 ∧ N = M) (OW D cy ad L s.heap.size) (fA ad L s.heap.size)) ([.int a1, .int a2, .int a3] : List Value).toArray s 0 0 (fA ad L s.heap.size)) (F0 m 60 ls []) := by
    intro  H locs ls  hT hV hC hl
    have hT : sp_X3_isMouth a1 a2 a3 = sp_X3_isMouth_B61 0 := hT
    have hV : vc_X3_isMouth_B61 0 := hV
    refine lv_iconst (v := 0) hx hb dX3_isMouth_60 (by decide) ?_
    exact J61 0 _ _ _  hT hV hC (lv_sub hl [] rfl)
  have J44 : ∀ (x1 : Int32) (H : Heap) (locs : List Loc) (ls : Array Slot) (hT : sp_X3_isMouth a1 a2 a3 = sp_X3_isMouth_B44 x1) (hV : vc_X3_isMouth_B44 x1) (hC : Cx D cy ad R0 L (fA ad L s.heap.size) s M H locs) (hl : lv_has ls 3 []), W p l e ({ frames := 1, cells := 0, slots := 0, locals := 20 }) s m ([.int a1, .int a2, .int a3] : List Value).toArray below meth c H locs 0 0 (MQ below (va_Qi (fun r N => r = sp_X3_isMouth a1 a2 a3 ∧ N = M) (OW D cy ad L s.heap.size) (fA ad L s.heap.size)) ([.int a1, .int a2, .int a3] : List Value).toArray s 0 0 (fA ad L s.heap.size)) (F0 m 44 ls [.int x1]) := by
    intro x1 H locs ls  hT hV hC hl
    have hT : sp_X3_isMouth a1 a2 a3 = x1 := hT
    have hV : (x1 = 0 ∨ x1 = 1) := hV
    have w44 : x1 = 0 ∨ x1 = 1 := hV
    exact q_retz hx hb hr hlocks hC w44 ⟨hT.symm, rfl⟩ dX3_isMouth_44
  have J43 : ∀  (H : Heap) (locs : List Loc) (ls : Array Slot) (hT : sp_X3_isMouth a1 a2 a3 = sp_X3_isMouth_B43 ) (hV : vc_X3_isMouth_B43 ) (hC : Cx D cy ad R0 L (fA ad L s.heap.size) s M H locs) (hl : lv_has ls 3 []), W p l e ({ frames := 1, cells := 0, slots := 0, locals := 20 }) s m ([.int a1, .int a2, .int a3] : List Value).toArray below meth c H locs 0 0 (MQ below (va_Qi (fun r N => r = sp_X3_isMouth a1 a2 a3 ∧ N = M) (OW D cy ad L s.heap.size) (fA ad L s.heap.size)) ([.int a1, .int a2, .int a3] : List Value).toArray s 0 0 (fA ad L s.heap.size)) (F0 m 43 ls []) := by
    intro  H locs ls  hT hV hC hl
    have hT : sp_X3_isMouth a1 a2 a3 = sp_X3_isMouth_B44 0 := hT
    have hV : vc_X3_isMouth_B44 0 := hV
    refine lv_iconst (v := 0) hx hb dX3_isMouth_43 (by decide) ?_
    exact J44 0 _ _ _  hT hV hC (lv_sub hl [] rfl)
  have hT : sp_X3_isMouth a1 a2 a3 = if a1 = 0 then (if a3 = 0 then (if (sp_X3_isMiddle a2) = 0 then sp_X3_isMouth_B43 else (sp_X3_isMouth_B44 1)) else sp_X3_isMouth_B43) else if a1 = 1 then (if a2 = 0 then (if (sp_X3_isMiddle a3) = 0 then sp_X3_isMouth_B60 else (sp_X3_isMouth_B61 1)) else sp_X3_isMouth_B60) else if a1 = 2 then (if a3 = 3 then (if (sp_X3_isMiddle a2) = 0 then sp_X3_isMouth_B78 else (sp_X3_isMouth_B79 1)) else sp_X3_isMouth_B78) else (if a2 = 3 then (if (sp_X3_isMiddle a3) = 0 then sp_X3_isMouth_B96 else (sp_X3_isMouth_B97 1)) else sp_X3_isMouth_B96) := rfl
  have hV : if a1 = 0 then (if a3 = 0 then (vc_X3_isMiddle M a2 ∧ (if (sp_X3_isMiddle a2) = 0 then vc_X3_isMouth_B43 else vc_X3_isMouth_B44 1)) else vc_X3_isMouth_B43) else if a1 = 1 then (if a2 = 0 then (vc_X3_isMiddle M a3 ∧ (if (sp_X3_isMiddle a3) = 0 then vc_X3_isMouth_B60 else vc_X3_isMouth_B61 1)) else vc_X3_isMouth_B60) else if a1 = 2 then (if a3 = 3 then (vc_X3_isMiddle M a2 ∧ (if (sp_X3_isMiddle a2) = 0 then vc_X3_isMouth_B78 else vc_X3_isMouth_B79 1)) else vc_X3_isMouth_B78) else (if a2 = 3 then (vc_X3_isMiddle M a3 ∧ (if (sp_X3_isMiddle a3) = 0 then vc_X3_isMouth_B96 else vc_X3_isMouth_B97 1)) else vc_X3_isMouth_B96) := hV
  refine lv_iload_n hx hb dX3_isMouth_0 rfl (lv_at hl 0 rfl) ?_
  by_cases c1_0 : a1 = 0
  · have hT : sp_X3_isMouth a1 a2 a3 = if a3 = 0 then (if (sp_X3_isMiddle a2) = 0 then sp_X3_isMouth_B43 else (sp_X3_isMouth_B44 1)) else sp_X3_isMouth_B43 := hT.trans (if_pos c1_0)
    have hV : if a3 = 0 then (vc_X3_isMiddle M a2 ∧ (if (sp_X3_isMiddle a2) = 0 then vc_X3_isMouth_B43 else vc_X3_isMouth_B44 1)) else vc_X3_isMouth_B43 := iteT hV c1_0
    refine lv_tableIn (tgt := 28) hx hb dX3_isMouth_1 (by rw [c1_0]; decide) (by rw [c1_0]; decide) (by rw [c1_0]; rfl) (by decide) ?_
    refine lv_iload_n hx hb dX3_isMouth_28 rfl (lv_at hl 2 rfl) ?_
    refine lv_if_ne (tgt := 43) hx hb dX3_isMouth_29 (by decide) (fun c29 => ?_) (fun c29 => ?_)
    · have hT : sp_X3_isMouth a1 a2 a3 = sp_X3_isMouth_B43 := hT.trans (if_neg c29)
      have hV : vc_X3_isMouth_B43 := iteF hV c29
      exact J43  _ _ _  hT hV hC (lv_sub hl [] rfl)
    · have hT : sp_X3_isMouth a1 a2 a3 = if (sp_X3_isMiddle a2) = 0 then sp_X3_isMouth_B43 else (sp_X3_isMouth_B44 1) := hT.trans (if_pos c29)
      have hV : vc_X3_isMiddle M a2 ∧ (if (sp_X3_isMiddle a2) = 0 then vc_X3_isMouth_B43 else vc_X3_isMouth_B44 1) := iteT hV c29
      refine lv_iload_n hx hb dX3_isMouth_32 rfl (lv_at hl 1 rfl) ?_
      obtain ⟨v33, hV⟩ : vc_X3_isMiddle M a2 ∧ (if (sp_X3_isMiddle a2) = 0 then vc_X3_isMouth_B43 else vc_X3_isMouth_B44 1) := hV
      refine q_Ci (q_S (own := "MazeBoard$Picture") (y := yX3_isMiddle) (As := [.int a2]) (rest := []) ⟨hx, hb, hml, hown, hB⟩ hK hE hC (c_X3_isMiddle l D cy ad L H.size M a2 v33) mw_2_232 mw_2_233 mw_1_9 mw_2_234 yd_X3_isMiddle ⟨rfl, rfl⟩ ⟨Nat.le_of_ble_eq_true rfl, Nat.le_of_ble_eq_true rfl⟩ rfl hl.1 rfl (Nat.le_of_ble_eq_true rfl) dX3_isMouth_33 ⟨Nat.le_refl _, Nat.le_refl _⟩) hC (fun r N_ H locs hp hC => ?_)
      obtain ⟨hr_, hM_⟩ := hp
      subst hr_
      rw [hM_] at hC
      refine lv_if_eq (tgt := 43) hx hb dX3_isMouth_36 (by decide) (fun c36 => ?_) (fun c36 => ?_)
      · have hT : sp_X3_isMouth a1 a2 a3 = sp_X3_isMouth_B43 := hT.trans (if_pos c36)
        have hV : vc_X3_isMouth_B43 := iteT hV c36
        exact J43  _ _ _  hT hV hC (lv_sub hl [] rfl)
      · have hT : sp_X3_isMouth a1 a2 a3 = sp_X3_isMouth_B44 1 := hT.trans (if_neg c36)
        have hV : vc_X3_isMouth_B44 1 := iteF hV c36
        refine lv_iconst (v := 1) hx hb dX3_isMouth_39 (by decide) ?_
        refine lv_goto (tgt := 44) hx hb dX3_isMouth_40 (by decide) ?_
        exact J44 1 _ _ _  hT hV hC (lv_sub hl [] rfl)
  replace hT := hT.trans (if_neg c1_0)
  replace hV := iteF hV c1_0
  by_cases c1_1 : a1 = 1
  · have hT : sp_X3_isMouth a1 a2 a3 = if a2 = 0 then (if (sp_X3_isMiddle a3) = 0 then sp_X3_isMouth_B60 else (sp_X3_isMouth_B61 1)) else sp_X3_isMouth_B60 := hT.trans (if_pos c1_1)
    have hV : if a2 = 0 then (vc_X3_isMiddle M a3 ∧ (if (sp_X3_isMiddle a3) = 0 then vc_X3_isMouth_B60 else vc_X3_isMouth_B61 1)) else vc_X3_isMouth_B60 := iteT hV c1_1
    refine lv_tableIn (tgt := 45) hx hb dX3_isMouth_1 (by rw [c1_1]; decide) (by rw [c1_1]; decide) (by rw [c1_1]; rfl) (by decide) ?_
    refine lv_iload_n hx hb dX3_isMouth_45 rfl (lv_at hl 1 rfl) ?_
    refine lv_if_ne (tgt := 60) hx hb dX3_isMouth_46 (by decide) (fun c46 => ?_) (fun c46 => ?_)
    · have hT : sp_X3_isMouth a1 a2 a3 = sp_X3_isMouth_B60 := hT.trans (if_neg c46)
      have hV : vc_X3_isMouth_B60 := iteF hV c46
      exact J60  _ _ _  hT hV hC (lv_sub hl [] rfl)
    · have hT : sp_X3_isMouth a1 a2 a3 = if (sp_X3_isMiddle a3) = 0 then sp_X3_isMouth_B60 else (sp_X3_isMouth_B61 1) := hT.trans (if_pos c46)
      have hV : vc_X3_isMiddle M a3 ∧ (if (sp_X3_isMiddle a3) = 0 then vc_X3_isMouth_B60 else vc_X3_isMouth_B61 1) := iteT hV c46
      refine lv_iload_n hx hb dX3_isMouth_49 rfl (lv_at hl 2 rfl) ?_
      obtain ⟨v50, hV⟩ : vc_X3_isMiddle M a3 ∧ (if (sp_X3_isMiddle a3) = 0 then vc_X3_isMouth_B60 else vc_X3_isMouth_B61 1) := hV
      refine q_Ci (q_S (own := "MazeBoard$Picture") (y := yX3_isMiddle) (As := [.int a3]) (rest := []) ⟨hx, hb, hml, hown, hB⟩ hK hE hC (c_X3_isMiddle l D cy ad L H.size M a3 v50) mw_2_232 mw_2_233 mw_1_9 mw_2_234 yd_X3_isMiddle ⟨rfl, rfl⟩ ⟨Nat.le_of_ble_eq_true rfl, Nat.le_of_ble_eq_true rfl⟩ rfl hl.1 rfl (Nat.le_of_ble_eq_true rfl) dX3_isMouth_50 ⟨Nat.le_refl _, Nat.le_refl _⟩) hC (fun r N_ H locs hp hC => ?_)
      obtain ⟨hr_, hM_⟩ := hp
      subst hr_
      rw [hM_] at hC
      refine lv_if_eq (tgt := 60) hx hb dX3_isMouth_53 (by decide) (fun c53 => ?_) (fun c53 => ?_)
      · have hT : sp_X3_isMouth a1 a2 a3 = sp_X3_isMouth_B60 := hT.trans (if_pos c53)
        have hV : vc_X3_isMouth_B60 := iteT hV c53
        exact J60  _ _ _  hT hV hC (lv_sub hl [] rfl)
      · have hT : sp_X3_isMouth a1 a2 a3 = sp_X3_isMouth_B61 1 := hT.trans (if_neg c53)
        have hV : vc_X3_isMouth_B61 1 := iteF hV c53
        refine lv_iconst (v := 1) hx hb dX3_isMouth_56 (by decide) ?_
        refine lv_goto (tgt := 61) hx hb dX3_isMouth_57 (by decide) ?_
        exact J61 1 _ _ _  hT hV hC (lv_sub hl [] rfl)
  replace hT := hT.trans (if_neg c1_1)
  replace hV := iteF hV c1_1
  by_cases c1_2 : a1 = 2
  · have hT : sp_X3_isMouth a1 a2 a3 = if a3 = 3 then (if (sp_X3_isMiddle a2) = 0 then sp_X3_isMouth_B78 else (sp_X3_isMouth_B79 1)) else sp_X3_isMouth_B78 := hT.trans (if_pos c1_2)
    have hV : if a3 = 3 then (vc_X3_isMiddle M a2 ∧ (if (sp_X3_isMiddle a2) = 0 then vc_X3_isMouth_B78 else vc_X3_isMouth_B79 1)) else vc_X3_isMouth_B78 := iteT hV c1_2
    refine lv_tableIn (tgt := 62) hx hb dX3_isMouth_1 (by rw [c1_2]; decide) (by rw [c1_2]; decide) (by rw [c1_2]; rfl) (by decide) ?_
    refine lv_iload_n hx hb dX3_isMouth_62 rfl (lv_at hl 2 rfl) ?_
    refine lv_iconst (v := 3) hx hb dX3_isMouth_63 (by decide) ?_
    refine lv_icmp_ne (tgt := 78) hx hb dX3_isMouth_64 (by decide) (fun c64 => ?_) (fun c64 => ?_)
    · have hT : sp_X3_isMouth a1 a2 a3 = sp_X3_isMouth_B78 := hT.trans (if_neg c64)
      have hV : vc_X3_isMouth_B78 := iteF hV c64
      exact J78  _ _ _  hT hV hC (lv_sub hl [] rfl)
    · have hT : sp_X3_isMouth a1 a2 a3 = if (sp_X3_isMiddle a2) = 0 then sp_X3_isMouth_B78 else (sp_X3_isMouth_B79 1) := hT.trans (if_pos c64)
      have hV : vc_X3_isMiddle M a2 ∧ (if (sp_X3_isMiddle a2) = 0 then vc_X3_isMouth_B78 else vc_X3_isMouth_B79 1) := iteT hV c64
      refine lv_iload_n hx hb dX3_isMouth_67 rfl (lv_at hl 1 rfl) ?_
      obtain ⟨v68, hV⟩ : vc_X3_isMiddle M a2 ∧ (if (sp_X3_isMiddle a2) = 0 then vc_X3_isMouth_B78 else vc_X3_isMouth_B79 1) := hV
      refine q_Ci (q_S (own := "MazeBoard$Picture") (y := yX3_isMiddle) (As := [.int a2]) (rest := []) ⟨hx, hb, hml, hown, hB⟩ hK hE hC (c_X3_isMiddle l D cy ad L H.size M a2 v68) mw_2_232 mw_2_233 mw_1_9 mw_2_234 yd_X3_isMiddle ⟨rfl, rfl⟩ ⟨Nat.le_of_ble_eq_true rfl, Nat.le_of_ble_eq_true rfl⟩ rfl hl.1 rfl (Nat.le_of_ble_eq_true rfl) dX3_isMouth_68 ⟨Nat.le_refl _, Nat.le_refl _⟩) hC (fun r N_ H locs hp hC => ?_)
      obtain ⟨hr_, hM_⟩ := hp
      subst hr_
      rw [hM_] at hC
      refine lv_if_eq (tgt := 78) hx hb dX3_isMouth_71 (by decide) (fun c71 => ?_) (fun c71 => ?_)
      · have hT : sp_X3_isMouth a1 a2 a3 = sp_X3_isMouth_B78 := hT.trans (if_pos c71)
        have hV : vc_X3_isMouth_B78 := iteT hV c71
        exact J78  _ _ _  hT hV hC (lv_sub hl [] rfl)
      · have hT : sp_X3_isMouth a1 a2 a3 = sp_X3_isMouth_B79 1 := hT.trans (if_neg c71)
        have hV : vc_X3_isMouth_B79 1 := iteF hV c71
        refine lv_iconst (v := 1) hx hb dX3_isMouth_74 (by decide) ?_
        refine lv_goto (tgt := 79) hx hb dX3_isMouth_75 (by decide) ?_
        exact J79 1 _ _ _  hT hV hC (lv_sub hl [] rfl)
  replace hT := hT.trans (if_neg c1_2)
  replace hV := iteF hV c1_2
  have hT : sp_X3_isMouth a1 a2 a3 = if a2 = 3 then (if (sp_X3_isMiddle a3) = 0 then sp_X3_isMouth_B96 else (sp_X3_isMouth_B97 1)) else sp_X3_isMouth_B96 := hT
  have hV : if a2 = 3 then (vc_X3_isMiddle M a3 ∧ (if (sp_X3_isMiddle a3) = 0 then vc_X3_isMouth_B96 else vc_X3_isMouth_B97 1)) else vc_X3_isMouth_B96 := hV
  refine lv_tableOut (tgt := 80) hx hb dX3_isMouth_1 (by have u0 : a1.toInt ≠ 0 := fun z => c1_0 (Int32.toInt_inj.mp (by rw [z]; rfl)); have u1 : a1.toInt ≠ 1 := fun z => c1_1 (Int32.toInt_inj.mp (by rw [z]; rfl)); have u2 : a1.toInt ≠ 2 := fun z => c1_2 (Int32.toInt_inj.mp (by rw [z]; rfl)); omega) (by decide) ?_
  refine lv_iload_n hx hb dX3_isMouth_80 rfl (lv_at hl 1 rfl) ?_
  refine lv_iconst (v := 3) hx hb dX3_isMouth_81 (by decide) ?_
  refine lv_icmp_ne (tgt := 96) hx hb dX3_isMouth_82 (by decide) (fun c82 => ?_) (fun c82 => ?_)
  · have hT : sp_X3_isMouth a1 a2 a3 = sp_X3_isMouth_B96 := hT.trans (if_neg c82)
    have hV : vc_X3_isMouth_B96 := iteF hV c82
    exact J96  _ _ _  hT hV hC (lv_sub hl [] rfl)
  · have hT : sp_X3_isMouth a1 a2 a3 = if (sp_X3_isMiddle a3) = 0 then sp_X3_isMouth_B96 else (sp_X3_isMouth_B97 1) := hT.trans (if_pos c82)
    have hV : vc_X3_isMiddle M a3 ∧ (if (sp_X3_isMiddle a3) = 0 then vc_X3_isMouth_B96 else vc_X3_isMouth_B97 1) := iteT hV c82
    refine lv_iload_n hx hb dX3_isMouth_85 rfl (lv_at hl 2 rfl) ?_
    obtain ⟨v86, hV⟩ : vc_X3_isMiddle M a3 ∧ (if (sp_X3_isMiddle a3) = 0 then vc_X3_isMouth_B96 else vc_X3_isMouth_B97 1) := hV
    refine q_Ci (q_S (own := "MazeBoard$Picture") (y := yX3_isMiddle) (As := [.int a3]) (rest := []) ⟨hx, hb, hml, hown, hB⟩ hK hE hC (c_X3_isMiddle l D cy ad L H.size M a3 v86) mw_2_232 mw_2_233 mw_1_9 mw_2_234 yd_X3_isMiddle ⟨rfl, rfl⟩ ⟨Nat.le_of_ble_eq_true rfl, Nat.le_of_ble_eq_true rfl⟩ rfl hl.1 rfl (Nat.le_of_ble_eq_true rfl) dX3_isMouth_86 ⟨Nat.le_refl _, Nat.le_refl _⟩) hC (fun r N_ H locs hp hC => ?_)
    obtain ⟨hr_, hM_⟩ := hp
    subst hr_
    rw [hM_] at hC
    refine lv_if_eq (tgt := 96) hx hb dX3_isMouth_89 (by decide) (fun c89 => ?_) (fun c89 => ?_)
    · have hT : sp_X3_isMouth a1 a2 a3 = sp_X3_isMouth_B96 := hT.trans (if_pos c89)
      have hV : vc_X3_isMouth_B96 := iteT hV c89
      exact J96  _ _ _  hT hV hC (lv_sub hl [] rfl)
    · have hT : sp_X3_isMouth a1 a2 a3 = sp_X3_isMouth_B97 1 := hT.trans (if_neg c89)
      have hV : vc_X3_isMouth_B97 1 := iteF hV c89
      refine lv_iconst (v := 1) hx hb dX3_isMouth_92 (by decide) ?_
      refine lv_goto (tgt := 97) hx hb dX3_isMouth_93 (by decide) ?_
      exact J97 1 _ _ _  hT hV hC (lv_sub hl [] rfl)
set_option maxHeartbeats 4000000 in
set_option maxRecDepth 100000 in
theorem c_X3_covers (l : Launch) (D : va_G) (cy ad : Nat → Nat) (L : List Nat) (sz : Nat) (hL : lr 1 9 L) (M : Mem) (b1 : Nat) (hb1 : isA b1) (a2 : Int32) (a3 : Int32) (a4 : Int32) (a5 : Int32) (hV : vc_X3_covers M b1 a2 a3 a4 a5) : Met l yX3_covers (Cond.code yX3_covers cX3_covers 12 (some .boolean) :: BG) ({ frames := 2, cells := 0, slots := 0, locals := 42 }) (va_Pc [.ref (ad b1), .int a2, .int a3, .int a4, .int a5] (PW D cy ad L M sz)) (va_Qi (fun r N => r = sp_X3_covers M b1 a2 a3 a4 a5 ∧ N = M) (OW D cy ad L sz) (fA ad L sz)) 0 0 (fA ad L sz) := by
  refine q_start (by decide) (Nat.le_of_ble_eq_true rfl) (fun p e s m below meth c H locs ls hsz hx hb hr hlocks hml hown hB hK hE hC hl => ?_)
  subst hsz
  have hown : s.vm.findClass "MazeBoard$Picture" = some m.cls := hown
  have hl : lv_has ls 12 [(0, .ref (ad b1)), (1, .int a2), (2, .int a3), (3, .int a4), (4, .int a5)] := hl
  have J173 : ∀ (x9 : Int32) (H : Heap) (locs : List Loc) (ls : Array Slot) (hT : sp_X3_covers M b1 a2 a3 a4 a5 = sp_X3_covers_B173 x9) (hV : vc_X3_covers_B173 x9) (hC : Cx D cy ad R0 L (fA ad L s.heap.size) s M H locs) (hl : lv_has ls 12 []), W p l e ({ frames := 2, cells := 0, slots := 0, locals := 42 }) s m ([.ref (ad b1), .int a2, .int a3, .int a4, .int a5] : List Value).toArray below meth c H locs 0 0 (MQ below (va_Qi (fun r N => r = sp_X3_covers M b1 a2 a3 a4 a5 ∧ N = M) (OW D cy ad L s.heap.size) (fA ad L s.heap.size)) ([.ref (ad b1), .int a2, .int a3, .int a4, .int a5] : List Value).toArray s 0 0 (fA ad L s.heap.size)) (F0 m 173 ls [.int x9]) := by
    intro x9 H locs ls  hT hV hC hl
    have hT : sp_X3_covers M b1 a2 a3 a4 a5 = x9 := hT
    have hV : (x9 = 0 ∨ x9 = 1) := hV
    have w173 : x9 = 0 ∨ x9 = 1 := hV
    exact q_retz hx hb hr hlocks hC w173 ⟨hT.symm, rfl⟩ dX3_covers_173
  have J172 : ∀  (H : Heap) (locs : List Loc) (ls : Array Slot) (hT : sp_X3_covers M b1 a2 a3 a4 a5 = sp_X3_covers_B172 ) (hV : vc_X3_covers_B172 ) (hC : Cx D cy ad R0 L (fA ad L s.heap.size) s M H locs) (hl : lv_has ls 12 []), W p l e ({ frames := 2, cells := 0, slots := 0, locals := 42 }) s m ([.ref (ad b1), .int a2, .int a3, .int a4, .int a5] : List Value).toArray below meth c H locs 0 0 (MQ below (va_Qi (fun r N => r = sp_X3_covers M b1 a2 a3 a4 a5 ∧ N = M) (OW D cy ad L s.heap.size) (fA ad L s.heap.size)) ([.ref (ad b1), .int a2, .int a3, .int a4, .int a5] : List Value).toArray s 0 0 (fA ad L s.heap.size)) (F0 m 172 ls []) := by
    intro  H locs ls  hT hV hC hl
    have hT : sp_X3_covers M b1 a2 a3 a4 a5 = sp_X3_covers_B173 0 := hT
    have hV : vc_X3_covers_B173 0 := hV
    refine lv_iconst (v := 0) hx hb dX3_covers_172 (by decide) ?_
    exact J173 0 _ _ _  hT hV hC (lv_sub hl [] rfl)
  have J168 : ∀  (H : Heap) (locs : List Loc) (ls : Array Slot) (hT : sp_X3_covers M b1 a2 a3 a4 a5 = sp_X3_covers_B168 ) (hV : vc_X3_covers_B168 ) (hC : Cx D cy ad R0 L (fA ad L s.heap.size) s M H locs) (hl : lv_has ls 12 []), W p l e ({ frames := 2, cells := 0, slots := 0, locals := 42 }) s m ([.ref (ad b1), .int a2, .int a3, .int a4, .int a5] : List Value).toArray below meth c H locs 0 0 (MQ below (va_Qi (fun r N => r = sp_X3_covers M b1 a2 a3 a4 a5 ∧ N = M) (OW D cy ad L s.heap.size) (fA ad L s.heap.size)) ([.ref (ad b1), .int a2, .int a3, .int a4, .int a5] : List Value).toArray s 0 0 (fA ad L s.heap.size)) (F0 m 168 ls []) := by
    intro  H locs ls  hT hV hC hl
    have hT : sp_X3_covers M b1 a2 a3 a4 a5 = sp_X3_covers_B173 1 := hT
    have hV : vc_X3_covers_B173 1 := hV
    refine lv_iconst (v := 1) hx hb dX3_covers_168 (by decide) ?_
    refine lv_goto (tgt := 173) hx hb dX3_covers_169 (by decide) ?_
    exact J173 1 _ _ _  hT hV hC (lv_sub hl [] rfl)
  have J142 : ∀ (x4 : Int32) (x5 : Int32) (x7 : Int32) (x8 : Int32) (H : Heap) (locs : List Loc) (ls : Array Slot) (hT : sp_X3_covers M b1 a2 a3 a4 a5 = sp_X3_covers_B142 M b1 x4 x5 x7 x8) (hV : vc_X3_covers_B142 M b1 x4 x5 x7 x8) (hC : Cx D cy ad R0 L (fA ad L s.heap.size) s M H locs) (hl : lv_has ls 12 [(0, .ref (ad b1)), (8, .int x4), (9, .int x5), (10, .int x7)]), W p l e ({ frames := 2, cells := 0, slots := 0, locals := 42 }) s m ([.ref (ad b1), .int a2, .int a3, .int a4, .int a5] : List Value).toArray below meth c H locs 0 0 (MQ below (va_Qi (fun r N => r = sp_X3_covers M b1 a2 a3 a4 a5 ∧ N = M) (OW D cy ad L s.heap.size) (fA ad L s.heap.size)) ([.ref (ad b1), .int a2, .int a3, .int a4, .int a5] : List Value).toArray s 0 0 (fA ad L s.heap.size)) (F0 m 142 ls [.int x8]) := by
    intro x4 x5 x7 x8 H locs ls  hT hV hC hl
    have hT : sp_X3_covers M b1 a2 a3 a4 a5 = if x7 = 0 then (if x8 = 0 then sp_X3_covers_B168 else (if (sp_X3_isMouth (gI M b1 2) x4 x5) = 0 then sp_X3_covers_B168 else sp_X3_covers_B172)) else sp_X3_covers_B172 := hT
    have hV : if x7 = 0 then (if x8 = 0 then vc_X3_covers_B168 else ((vc_X3_isMouth M (gI M b1 2) x4 x5) ∧ (if (sp_X3_isMouth (gI M b1 2) x4 x5) = 0 then vc_X3_covers_B168 else vc_X3_covers_B172))) else vc_X3_covers_B172 := hV
    refine lv_istore (lv' := [(11, .int x8), (0, .ref (ad b1)), (8, .int x4), (9, .int x5), (10, .int x7)]) hx hb dX3_covers_142 hl (by decide) rfl (fun ls hl => ?_)
    refine lv_iload hx hb dX3_covers_144 (lv_at hl 4 rfl) ?_
    refine lv_if_ne (tgt := 172) hx hb dX3_covers_146 (by decide) (fun c146 => ?_) (fun c146 => ?_)
    · have hT : sp_X3_covers M b1 a2 a3 a4 a5 = sp_X3_covers_B172 := hT.trans (if_neg c146)
      have hV : vc_X3_covers_B172 := iteF hV c146
      exact J172  _ _ _  hT hV hC (lv_sub hl [] rfl)
    · have hT : sp_X3_covers M b1 a2 a3 a4 a5 = if x8 = 0 then sp_X3_covers_B168 else (if (sp_X3_isMouth (gI M b1 2) x4 x5) = 0 then sp_X3_covers_B168 else sp_X3_covers_B172) := hT.trans (if_pos c146)
      have hV : if x8 = 0 then vc_X3_covers_B168 else ((vc_X3_isMouth M (gI M b1 2) x4 x5) ∧ (if (sp_X3_isMouth (gI M b1 2) x4 x5) = 0 then vc_X3_covers_B168 else vc_X3_covers_B172)) := iteT hV c146
      refine lv_iload hx hb dX3_covers_149 (lv_at hl 0 rfl) ?_
      refine lv_if_eq (tgt := 168) hx hb dX3_covers_151 (by decide) (fun c151 => ?_) (fun c151 => ?_)
      · have hT : sp_X3_covers M b1 a2 a3 a4 a5 = sp_X3_covers_B168 := hT.trans (if_pos c151)
        have hV : vc_X3_covers_B168 := iteT hV c151
        exact J168  _ _ _  hT hV hC (lv_sub hl [] rfl)
      · have hT : sp_X3_covers M b1 a2 a3 a4 a5 = if (sp_X3_isMouth (gI M b1 2) x4 x5) = 0 then sp_X3_covers_B168 else sp_X3_covers_B172 := hT.trans (if_neg c151)
        have hV : (vc_X3_isMouth M (gI M b1 2) x4 x5) ∧ (if (sp_X3_isMouth (gI M b1 2) x4 x5) = 0 then vc_X3_covers_B168 else vc_X3_covers_B172) := iteF hV c151
        refine lv_aload_n hx hb dX3_covers_154 rfl (lv_at hl 1 rfl) ?_
        refine q_geti (T := TX0) hx hb hB uw_X0 hown hK hC (isA.sh hb1) (hL _ (Nat.le_trans (by decide) (hb1).1) (Nat.le_trans (hb1).2 (by decide))) rfl 2 (by decide) rfl (hB _ mw_1_58) dX3_covers_155 ?_
        refine lv_iload hx hb dX3_covers_158 (lv_at hl 2 rfl) ?_
        refine lv_iload hx hb dX3_covers_160 (lv_at hl 3 rfl) ?_
        obtain ⟨v162, hV⟩ : (vc_X3_isMouth M (gI M b1 2) x4 x5) ∧ (if (sp_X3_isMouth (gI M b1 2) x4 x5) = 0 then vc_X3_covers_B168 else vc_X3_covers_B172) := hV
        refine q_Ci (q_S (own := "MazeBoard$Picture") (y := yX3_isMouth) (As := [.int (gI M b1 2), .int x4, .int x5]) (rest := []) ⟨hx, hb, hml, hown, hB⟩ hK hE hC (c_X3_isMouth l D cy ad L H.size M (gI M b1 2) x4 x5 v162) mw_2_235 mw_2_236 mw_1_9 mw_2_237 yd_X3_isMouth ⟨rfl, rfl⟩ ⟨Nat.le_of_ble_eq_true rfl, Nat.le_of_ble_eq_true rfl⟩ rfl hl.1 rfl (Nat.le_of_ble_eq_true rfl) dX3_covers_162 ⟨Nat.le_refl _, Nat.le_refl _⟩) hC (fun r N_ H locs hp hC => ?_)
        obtain ⟨hr_, hM_⟩ := hp
        subst hr_
        rw [hM_] at hC
        refine lv_if_ne (tgt := 172) hx hb dX3_covers_165 (by decide) (fun c165 => ?_) (fun c165 => ?_)
        · have hT : sp_X3_covers M b1 a2 a3 a4 a5 = sp_X3_covers_B172 := hT.trans (if_neg c165)
          have hV : vc_X3_covers_B172 := iteF hV c165
          exact J172  _ _ _  hT hV hC (lv_sub hl [] rfl)
        · have hT : sp_X3_covers M b1 a2 a3 a4 a5 = sp_X3_covers_B168 := hT.trans (if_pos c165)
          have hV : vc_X3_covers_B168 := iteT hV c165
          exact J168  _ _ _  hT hV hC (lv_sub hl [] rfl)
  have J128 : ∀ (x4 : Int32) (x5 : Int32) (x7 : Int32) (H : Heap) (locs : List Loc) (ls : Array Slot) (hT : sp_X3_covers M b1 a2 a3 a4 a5 = sp_X3_covers_B128 M b1 a5 x4 x5 x7) (hV : vc_X3_covers_B128 M b1 a5 x4 x5 x7) (hC : Cx D cy ad R0 L (fA ad L s.heap.size) s M H locs) (hl : lv_has ls 12 [(0, .ref (ad b1)), (4, .int a5), (8, .int x4), (9, .int x5)]), W p l e ({ frames := 2, cells := 0, slots := 0, locals := 42 }) s m ([.ref (ad b1), .int a2, .int a3, .int a4, .int a5] : List Value).toArray below meth c H locs 0 0 (MQ below (va_Qi (fun r N => r = sp_X3_covers M b1 a2 a3 a4 a5 ∧ N = M) (OW D cy ad L s.heap.size) (fA ad L s.heap.size)) ([.ref (ad b1), .int a2, .int a3, .int a4, .int a5] : List Value).toArray s 0 0 (fA ad L s.heap.size)) (F0 m 128 ls [.int x7]) := by
    intro x4 x5 x7 H locs ls  hT hV hC hl
    have hT : sp_X3_covers M b1 a2 a3 a4 a5 = if (a5 &&& 4) = 0 then (sp_X3_covers_B142 M b1 x4 x5 x7 1) else (sp_X3_covers_B142 M b1 x4 x5 x7 0) := hT
    have hV : if (a5 &&& 4) = 0 then vc_X3_covers_B142 M b1 x4 x5 x7 1 else vc_X3_covers_B142 M b1 x4 x5 x7 0 := hV
    refine lv_istore (lv' := [(10, .int x7), (0, .ref (ad b1)), (4, .int a5), (8, .int x4), (9, .int x5)]) hx hb dX3_covers_128 hl (by decide) rfl (fun ls hl => ?_)
    refine lv_iload hx hb dX3_covers_130 (lv_at hl 2 rfl) ?_
    refine lv_iconst (v := 4) hx hb dX3_covers_132 (by decide) ?_
    refine lv_iand hx hb dX3_covers_133 ?_
    refine lv_if_ne (tgt := 141) hx hb dX3_covers_134 (by decide) (fun c134 => ?_) (fun c134 => ?_)
    · have hT : sp_X3_covers M b1 a2 a3 a4 a5 = sp_X3_covers_B142 M b1 x4 x5 x7 0 := hT.trans (if_neg c134)
      have hV : vc_X3_covers_B142 M b1 x4 x5 x7 0 := iteF hV c134
      refine lv_iconst (v := 0) hx hb dX3_covers_141 (by decide) ?_
      exact J142 x4 x5 x7 0 _ _ _  hT hV hC (lv_sub hl [1, 3, 4, 0] rfl)
    · have hT : sp_X3_covers M b1 a2 a3 a4 a5 = sp_X3_covers_B142 M b1 x4 x5 x7 1 := hT.trans (if_pos c134)
      have hV : vc_X3_covers_B142 M b1 x4 x5 x7 1 := iteT hV c134
      refine lv_iconst (v := 1) hx hb dX3_covers_137 (by decide) ?_
      refine lv_goto (tgt := 142) hx hb dX3_covers_138 (by decide) ?_
      exact J142 x4 x5 x7 1 _ _ _  hT hV hC (lv_sub hl [1, 3, 4, 0] rfl)
  have J127 : ∀ (x4 : Int32) (x5 : Int32) (H : Heap) (locs : List Loc) (ls : Array Slot) (hT : sp_X3_covers M b1 a2 a3 a4 a5 = sp_X3_covers_B127 M b1 a5 x4 x5) (hV : vc_X3_covers_B127 M b1 a5 x4 x5) (hC : Cx D cy ad R0 L (fA ad L s.heap.size) s M H locs) (hl : lv_has ls 12 [(0, .ref (ad b1)), (4, .int a5), (8, .int x4), (9, .int x5)]), W p l e ({ frames := 2, cells := 0, slots := 0, locals := 42 }) s m ([.ref (ad b1), .int a2, .int a3, .int a4, .int a5] : List Value).toArray below meth c H locs 0 0 (MQ below (va_Qi (fun r N => r = sp_X3_covers M b1 a2 a3 a4 a5 ∧ N = M) (OW D cy ad L s.heap.size) (fA ad L s.heap.size)) ([.ref (ad b1), .int a2, .int a3, .int a4, .int a5] : List Value).toArray s 0 0 (fA ad L s.heap.size)) (F0 m 127 ls []) := by
    intro x4 x5 H locs ls  hT hV hC hl
    have hT : sp_X3_covers M b1 a2 a3 a4 a5 = sp_X3_covers_B128 M b1 a5 x4 x5 0 := hT
    have hV : vc_X3_covers_B128 M b1 a5 x4 x5 0 := hV
    refine lv_iconst (v := 0) hx hb dX3_covers_127 (by decide) ?_
    exact J128 x4 x5 0 _ _ _  hT hV hC (lv_sub hl [0, 1, 2, 3] rfl)
  have J106 : ∀ (x6 : Int32) (H : Heap) (locs : List Loc) (ls : Array Slot) (hT : sp_X3_covers M b1 a2 a3 a4 a5 = sp_X3_covers_B106 x6) (hV : vc_X3_covers_B106 x6) (hC : Cx D cy ad R0 L (fA ad L s.heap.size) s M H locs) (hl : lv_has ls 12 []), W p l e ({ frames := 2, cells := 0, slots := 0, locals := 42 }) s m ([.ref (ad b1), .int a2, .int a3, .int a4, .int a5] : List Value).toArray below meth c H locs 0 0 (MQ below (va_Qi (fun r N => r = sp_X3_covers M b1 a2 a3 a4 a5 ∧ N = M) (OW D cy ad L s.heap.size) (fA ad L s.heap.size)) ([.ref (ad b1), .int a2, .int a3, .int a4, .int a5] : List Value).toArray s 0 0 (fA ad L s.heap.size)) (F0 m 106 ls [.int x6]) := by
    intro x6 H locs ls  hT hV hC hl
    have hT : sp_X3_covers M b1 a2 a3 a4 a5 = x6 := hT
    have hV : (x6 = 0 ∨ x6 = 1) := hV
    have w106 : x6 = 0 ∨ x6 = 1 := hV
    exact q_retz hx hb hr hlocks hC w106 ⟨hT.symm, rfl⟩ dX3_covers_106
  have J101 : ∀  (H : Heap) (locs : List Loc) (ls : Array Slot) (hT : sp_X3_covers M b1 a2 a3 a4 a5 = sp_X3_covers_B101 ) (hV : vc_X3_covers_B101 ) (hC : Cx D cy ad R0 L (fA ad L s.heap.size) s M H locs) (hl : lv_has ls 12 []), W p l e ({ frames := 2, cells := 0, slots := 0, locals := 42 }) s m ([.ref (ad b1), .int a2, .int a3, .int a4, .int a5] : List Value).toArray below meth c H locs 0 0 (MQ below (va_Qi (fun r N => r = sp_X3_covers M b1 a2 a3 a4 a5 ∧ N = M) (OW D cy ad L s.heap.size) (fA ad L s.heap.size)) ([.ref (ad b1), .int a2, .int a3, .int a4, .int a5] : List Value).toArray s 0 0 (fA ad L s.heap.size)) (F0 m 101 ls []) := by
    intro  H locs ls  hT hV hC hl
    have hT : sp_X3_covers M b1 a2 a3 a4 a5 = sp_X3_covers_B106 1 := hT
    have hV : vc_X3_covers_B106 1 := hV
    refine lv_iconst (v := 1) hx hb dX3_covers_101 (by decide) ?_
    refine lv_goto (tgt := 106) hx hb dX3_covers_102 (by decide) ?_
    exact J106 1 _ _ _  hT hV hC (lv_sub hl [] rfl)
  have J82 : ∀  (H : Heap) (locs : List Loc) (ls : Array Slot) (hT : sp_X3_covers M b1 a2 a3 a4 a5 = sp_X3_covers_B82 ) (hC : Cx D cy ad R0 L (fA ad L s.heap.size) s M H locs) (hl : lv_has ls 12 []), W p l e ({ frames := 2, cells := 0, slots := 0, locals := 42 }) s m ([.ref (ad b1), .int a2, .int a3, .int a4, .int a5] : List Value).toArray below meth c H locs 0 0 (MQ below (va_Qi (fun r N => r = sp_X3_covers M b1 a2 a3 a4 a5 ∧ N = M) (OW D cy ad L s.heap.size) (fA ad L s.heap.size)) ([.ref (ad b1), .int a2, .int a3, .int a4, .int a5] : List Value).toArray s 0 0 (fA ad L s.heap.size)) (F0 m 82 ls []) := by
    intro  H locs ls  hT hC hl
    have hT : sp_X3_covers M b1 a2 a3 a4 a5 = 0 := hT
    refine lv_iconst (v := 0) hx hb dX3_covers_82 (by decide) ?_
    exact q_retz hx hb hr hlocks hC (by decide) ⟨hT.symm, rfl⟩ dX3_covers_83
  have hT : sp_X3_covers M b1 a2 a3 a4 a5 = sp_X3_covers_n5 M b1 a2 a3 a4 a5 (FP.f2i (FP.fmul (gF M b1 3) 1082130432)) := rfl
  have hV : (vf_n32 (FP.fmul (gF M b1 3) 1082130432)) ∧ (vc_X3_covers_n5 M b1 a2 a3 a4 a5 (FP.f2i (FP.fmul (gF M b1 3) 1082130432))) := hV
  refine lv_aload_n hx hb dX3_covers_0 rfl (lv_at hl 0 rfl) ?_
  refine q_getf (T := TX0) hx hb hB uw_X0 hown hK hC (isA.sh hb1) (hL _ (Nat.le_trans (by decide) (hb1).1) (Nat.le_trans (hb1).2 (by decide))) rfl 3 (by decide) rfl (hB _ mw_1_62) dX3_covers_1 ?_
  refine lv_ldcf (v := 1082130432) hx hb hown (hB _ mw_2_226) dX3_covers_4 ?_
  obtain ⟨w6, hV⟩ : (vf_n32 (FP.fmul (gF M b1 3) 1082130432)) ∧ (vc_X3_covers_n5 M b1 a2 a3 a4 a5 (FP.f2i (FP.fmul (gF M b1 3) 1082130432))) := hV
  refine lv_fmul hx hb dX3_covers_6 w6 ?_
  refine lv_f2i hx hb dX3_covers_7 ?_
  refine lv_topi (fun x1 ex1 => ?_)
  have hT : sp_X3_covers M b1 a2 a3 a4 a5 = sp_X3_covers_n5 M b1 a2 a3 a4 a5 x1 := by rw [ex1]; exact hT
  have hV : vc_X3_covers_n5 M b1 a2 a3 a4 a5 x1 := by rw [ex1]; exact hV
  refine lv_istore (lv' := [(5, .int x1), (0, .ref (ad b1)), (1, .int a2), (2, .int a3), (3, .int a4), (4, .int a5)]) hx hb dX3_covers_8 hl (by decide) rfl (fun ls hl => ?_)
  refine lv_aload_n hx hb dX3_covers_10 rfl (lv_at hl 1 rfl) ?_
  refine q_geti (T := TX0) hx hb hB uw_X0 hown hK hC (isA.sh hb1) (hL _ (Nat.le_trans (by decide) (hb1).1) (Nat.le_trans (hb1).2 (by decide))) rfl 0 (by decide) rfl (hB _ mw_1_49) dX3_covers_11 ?_
  refine lv_iconst (v := 4) hx hb dX3_covers_14 (by decide) ?_
  refine lv_imul hx hb dX3_covers_15 ?_
  refine lv_iload hx hb dX3_covers_16 (lv_at hl 0 rfl) ?_
  refine lv_aload_n hx hb dX3_covers_18 rfl (lv_at hl 1 rfl) ?_
  refine q_geti (T := TX0) hx hb hB uw_X0 hown hK hC (isA.sh hb1) (hL _ (Nat.le_trans (by decide) (hb1).1) (Nat.le_trans (hb1).2 (by decide))) rfl 2 (by decide) rfl (hB _ mw_1_58) dX3_covers_19 ?_
  refine q_Ci (q_N (own := "MazeBoard$Picture") (y := yX6_columnStep) (As := [.int (gI M b1 2)]) (rest := [.int x1, .int ((gI M b1 0) * 4)]) ⟨hx, hb, hml, hown, hB⟩ hK hE hC (c_X6_columnStep l D cy ad L H.size M (gI M b1 2)) (nw_X3_39 hE.2) mw_2_134 mw_1_1 mw_2_135 yd_X6_columnStep ⟨rfl, rfl⟩ ⟨Nat.le_of_ble_eq_true rfl, Nat.le_of_ble_eq_true rfl⟩ rfl hl.1 rfl (Nat.le_of_ble_eq_true rfl) dX3_covers_22 ⟨Nat.le_refl _, Nat.le_refl _⟩) hC (fun r N_ H locs hp hC => ?_)
  obtain ⟨hr_, hM_⟩ := hp
  subst hr_
  rw [hM_] at hC
  refine lv_imul hx hb dX3_covers_25 ?_
  refine lv_iadd hx hb dX3_covers_26 ?_
  refine lv_topi (fun x2 ex2 => ?_)
  have hT : sp_X3_covers M b1 a2 a3 a4 a5 = sp_X3_covers_n4 M b1 a2 a3 a4 a5 x1 x2 := by rw [ex2]; exact hT
  have hV : vc_X3_covers_n4 M b1 a2 a3 a4 a5 x1 x2 := by rw [ex2]; exact hV
  refine lv_istore (lv' := [(6, .int x2), (5, .int x1), (0, .ref (ad b1)), (1, .int a2), (2, .int a3), (3, .int a4), (4, .int a5)]) hx hb dX3_covers_27 hl (by decide) rfl (fun ls hl => ?_)
  refine lv_aload_n hx hb dX3_covers_29 rfl (lv_at hl 2 rfl) ?_
  refine q_geti (T := TX0) hx hb hB uw_X0 hown hK hC (isA.sh hb1) (hL _ (Nat.le_trans (by decide) (hb1).1) (Nat.le_trans (hb1).2 (by decide))) rfl 1 (by decide) rfl (hB _ mw_1_54) dX3_covers_30 ?_
  refine lv_iconst (v := 4) hx hb dX3_covers_33 (by decide) ?_
  refine lv_imul hx hb dX3_covers_34 ?_
  refine lv_iload hx hb dX3_covers_35 (lv_at hl 1 rfl) ?_
  refine lv_aload_n hx hb dX3_covers_37 rfl (lv_at hl 2 rfl) ?_
  refine q_geti (T := TX0) hx hb hB uw_X0 hown hK hC (isA.sh hb1) (hL _ (Nat.le_trans (by decide) (hb1).1) (Nat.le_trans (hb1).2 (by decide))) rfl 2 (by decide) rfl (hB _ mw_1_58) dX3_covers_38 ?_
  refine q_Ci (q_N (own := "MazeBoard$Picture") (y := yX6_rowStep) (As := [.int (gI M b1 2)]) (rest := [.int x1, .int ((gI M b1 1) * 4)]) ⟨hx, hb, hml, hown, hB⟩ hK hE hC (c_X6_rowStep l D cy ad L H.size M (gI M b1 2)) (nw_X3_46 hE.2) mw_2_137 mw_1_1 mw_2_138 yd_X6_rowStep ⟨rfl, rfl⟩ ⟨Nat.le_of_ble_eq_true rfl, Nat.le_of_ble_eq_true rfl⟩ rfl hl.1 rfl (Nat.le_of_ble_eq_true rfl) dX3_covers_41 ⟨Nat.le_refl _, Nat.le_refl _⟩) hC (fun r N_ H locs hp hC => ?_)
  obtain ⟨hr_, hM_⟩ := hp
  subst hr_
  rw [hM_] at hC
  refine lv_imul hx hb dX3_covers_44 ?_
  refine lv_iadd hx hb dX3_covers_45 ?_
  refine lv_topi (fun x3 ex3 => ?_)
  have hT : sp_X3_covers M b1 a2 a3 a4 a5 = sp_X3_covers_n3 M b1 a2 a3 a4 a5 x2 x3 := by rw [ex3]; exact hT
  have hV : vc_X3_covers_n3 M b1 a2 a3 a4 a5 x2 x3 := by rw [ex3]; exact hV
  refine lv_istore (lv' := [(7, .int x3), (6, .int x2), (5, .int x1), (0, .ref (ad b1)), (1, .int a2), (2, .int a3), (3, .int a4), (4, .int a5)]) hx hb dX3_covers_46 hl (by decide) rfl (fun ls hl => ?_)
  refine lv_iload_n hx hb dX3_covers_48 rfl (lv_at hl 5 rfl) ?_
  refine lv_iload hx hb dX3_covers_49 (lv_at hl 1 rfl) ?_
  refine lv_isub hx hb dX3_covers_51 ?_
  refine lv_bipush (v := 52) hx hb dX3_covers_52 (by decide) ?_
  obtain ⟨v54, hV⟩ : (vc_J9_floorMod_7cf53 M (a3 - x2) 52) ∧ (vc_X3_covers_n2 M b1 a2 a4 a5 x3 (sp_J9_floorMod_7cf53 (a3 - x2) 52)) := hV
  refine q_Ci (q_S (own := "MazeBoard$Picture") (y := yJ9_floorMod_7cf53) (As := [.int (a3 - x2), .int 52]) (rest := []) ⟨hx, hb, hml, hown, hB⟩ hK hE hC (c_J9_floorMod_7cf53 l D cy ad L H.size M (a3 - x2) 52 v54) mw_2_229 mw_2_230 mw_1_8 mw_2_231 yd_J9_floorMod_7cf53 ⟨rfl, rfl⟩ ⟨Nat.le_of_ble_eq_true rfl, Nat.le_of_ble_eq_true rfl⟩ rfl hl.1 rfl (Nat.le_of_ble_eq_true rfl) dX3_covers_54 ⟨Nat.le_refl _, Nat.le_refl _⟩) hC (fun r N_ H locs hp hC => ?_)
  obtain ⟨hr_, hM_⟩ := hp
  subst hr_
  rw [hM_] at hC
  refine lv_topi (fun x4 ex4 => ?_)
  have hT : sp_X3_covers M b1 a2 a3 a4 a5 = sp_X3_covers_n2 M b1 a2 a4 a5 x3 x4 := by rw [ex4]; exact hT
  have hV : vc_X3_covers_n2 M b1 a2 a4 a5 x3 x4 := by rw [ex4]; exact hV
  refine lv_istore (lv' := [(8, .int x4), (7, .int x3), (6, .int x2), (5, .int x1), (0, .ref (ad b1)), (1, .int a2), (2, .int a3), (3, .int a4), (4, .int a5)]) hx hb dX3_covers_57 hl (by decide) rfl (fun ls hl => ?_)
  refine lv_iload_n hx hb dX3_covers_59 rfl (lv_at hl 7 rfl) ?_
  refine lv_iload hx hb dX3_covers_60 (lv_at hl 1 rfl) ?_
  refine lv_isub hx hb dX3_covers_62 ?_
  refine lv_bipush (v := 36) hx hb dX3_covers_63 (by decide) ?_
  obtain ⟨v65, hV⟩ : (vc_J9_floorMod_7cf53 M (a4 - x3) 36) ∧ (vc_X3_covers_n1 M b1 a2 a5 x4 (sp_J9_floorMod_7cf53 (a4 - x3) 36)) := hV
  refine q_Ci (q_S (own := "MazeBoard$Picture") (y := yJ9_floorMod_7cf53) (As := [.int (a4 - x3), .int 36]) (rest := []) ⟨hx, hb, hml, hown, hB⟩ hK hE hC (c_J9_floorMod_7cf53 l D cy ad L H.size M (a4 - x3) 36 v65) mw_2_229 mw_2_230 mw_1_8 mw_2_231 yd_J9_floorMod_7cf53 ⟨rfl, rfl⟩ ⟨Nat.le_of_ble_eq_true rfl, Nat.le_of_ble_eq_true rfl⟩ rfl hl.1 rfl (Nat.le_of_ble_eq_true rfl) dX3_covers_65 ⟨Nat.le_refl _, Nat.le_refl _⟩) hC (fun r N_ H locs hp hC => ?_)
  obtain ⟨hr_, hM_⟩ := hp
  subst hr_
  rw [hM_] at hC
  refine lv_topi (fun x5 ex5 => ?_)
  have hT : sp_X3_covers M b1 a2 a3 a4 a5 = sp_X3_covers_n1 M b1 a2 a5 x4 x5 := by rw [ex5]; exact hT
  have hV : vc_X3_covers_n1 M b1 a2 a5 x4 x5 := by rw [ex5]; exact hV
  refine lv_istore (lv' := [(9, .int x5), (8, .int x4), (7, .int x3), (6, .int x2), (5, .int x1), (0, .ref (ad b1)), (1, .int a2), (2, .int a3), (3, .int a4), (4, .int a5)]) hx hb dX3_covers_68 hl (by decide) rfl (fun ls hl => ?_)
  refine lv_iload hx hb dX3_covers_70 (lv_at hl 1 rfl) ?_
  refine lv_iconst (v := 4) hx hb dX3_covers_72 (by decide) ?_
  refine lv_icmp_ge (tgt := 82) hx hb dX3_covers_73 (by decide) (fun c73 => ?_) (fun c73 => ?_)
  · have hT : sp_X3_covers M b1 a2 a3 a4 a5 = sp_X3_covers_B82 := hT.trans (if_pos c73)
    exact J82  _ _ _  hT hC (lv_sub hl [] rfl)
  · have hT : sp_X3_covers M b1 a2 a3 a4 a5 = if x5 < 4 then (if a2 ≤ 0 then (if (sp_X3_isMiddle x4) = 0 then (if (sp_X3_isMiddle x5) = 0 then (sp_X3_covers_B128 M b1 a5 x4 x5 1) else (sp_X3_covers_B127 M b1 a5 x4 x5)) else (sp_X3_covers_B127 M b1 a5 x4 x5)) else (if (sp_X3_isMiddle x4) = 0 then (if x5 ≤ 0 then (sp_X3_covers_B106 0) else sp_X3_covers_B101) else sp_X3_covers_B101)) else sp_X3_covers_B82 := hT.trans (if_neg c73)
    have hV : if x5 < 4 then (if a2 ≤ 0 then (vc_X3_isMiddle M x4 ∧ (if (sp_X3_isMiddle x4) = 0 then (vc_X3_isMiddle M x5 ∧ (if (sp_X3_isMiddle x5) = 0 then vc_X3_covers_B128 M b1 a5 x4 x5 1 else vc_X3_covers_B127 M b1 a5 x4 x5)) else vc_X3_covers_B127 M b1 a5 x4 x5)) else (vc_X3_isMiddle M x4 ∧ (if (sp_X3_isMiddle x4) = 0 then (if x5 ≤ 0 then vc_X3_covers_B106 0 else vc_X3_covers_B101) else vc_X3_covers_B101))) else True := iteF hV c73
    refine lv_iload hx hb dX3_covers_76 (lv_at hl 0 rfl) ?_
    refine lv_iconst (v := 4) hx hb dX3_covers_78 (by decide) ?_
    refine lv_icmp_lt (tgt := 84) hx hb dX3_covers_79 (by decide) (fun c79 => ?_) (fun c79 => ?_)
    · have hT : sp_X3_covers M b1 a2 a3 a4 a5 = if a2 ≤ 0 then (if (sp_X3_isMiddle x4) = 0 then (if (sp_X3_isMiddle x5) = 0 then (sp_X3_covers_B128 M b1 a5 x4 x5 1) else (sp_X3_covers_B127 M b1 a5 x4 x5)) else (sp_X3_covers_B127 M b1 a5 x4 x5)) else (if (sp_X3_isMiddle x4) = 0 then (if x5 ≤ 0 then (sp_X3_covers_B106 0) else sp_X3_covers_B101) else sp_X3_covers_B101) := hT.trans (if_pos c79)
      have hV : if a2 ≤ 0 then (vc_X3_isMiddle M x4 ∧ (if (sp_X3_isMiddle x4) = 0 then (vc_X3_isMiddle M x5 ∧ (if (sp_X3_isMiddle x5) = 0 then vc_X3_covers_B128 M b1 a5 x4 x5 1 else vc_X3_covers_B127 M b1 a5 x4 x5)) else vc_X3_covers_B127 M b1 a5 x4 x5)) else (vc_X3_isMiddle M x4 ∧ (if (sp_X3_isMiddle x4) = 0 then (if x5 ≤ 0 then vc_X3_covers_B106 0 else vc_X3_covers_B101) else vc_X3_covers_B101)) := iteT hV c79
      refine lv_iload_n hx hb dX3_covers_84 rfl (lv_at hl 6 rfl) ?_
      refine lv_if_le (tgt := 107) hx hb dX3_covers_85 (by decide) (fun c85 => ?_) (fun c85 => ?_)
      · have hT : sp_X3_covers M b1 a2 a3 a4 a5 = if (sp_X3_isMiddle x4) = 0 then (if (sp_X3_isMiddle x5) = 0 then (sp_X3_covers_B128 M b1 a5 x4 x5 1) else (sp_X3_covers_B127 M b1 a5 x4 x5)) else (sp_X3_covers_B127 M b1 a5 x4 x5) := hT.trans (if_pos c85)
        have hV : vc_X3_isMiddle M x4 ∧ (if (sp_X3_isMiddle x4) = 0 then (vc_X3_isMiddle M x5 ∧ (if (sp_X3_isMiddle x5) = 0 then vc_X3_covers_B128 M b1 a5 x4 x5 1 else vc_X3_covers_B127 M b1 a5 x4 x5)) else vc_X3_covers_B127 M b1 a5 x4 x5) := iteT hV c85
        refine lv_iload hx hb dX3_covers_107 (lv_at hl 1 rfl) ?_
        obtain ⟨v109, hV⟩ : vc_X3_isMiddle M x4 ∧ (if (sp_X3_isMiddle x4) = 0 then (vc_X3_isMiddle M x5 ∧ (if (sp_X3_isMiddle x5) = 0 then vc_X3_covers_B128 M b1 a5 x4 x5 1 else vc_X3_covers_B127 M b1 a5 x4 x5)) else vc_X3_covers_B127 M b1 a5 x4 x5) := hV
        refine q_Ci (q_S (own := "MazeBoard$Picture") (y := yX3_isMiddle) (As := [.int x4]) (rest := []) ⟨hx, hb, hml, hown, hB⟩ hK hE hC (c_X3_isMiddle l D cy ad L H.size M x4 v109) mw_2_232 mw_2_233 mw_1_9 mw_2_234 yd_X3_isMiddle ⟨rfl, rfl⟩ ⟨Nat.le_of_ble_eq_true rfl, Nat.le_of_ble_eq_true rfl⟩ rfl hl.1 rfl (Nat.le_of_ble_eq_true rfl) dX3_covers_109 ⟨Nat.le_refl _, Nat.le_refl _⟩) hC (fun r N_ H locs hp hC => ?_)
        obtain ⟨hr_, hM_⟩ := hp
        subst hr_
        rw [hM_] at hC
        refine lv_if_ne (tgt := 127) hx hb dX3_covers_112 (by decide) (fun c112 => ?_) (fun c112 => ?_)
        · have hT : sp_X3_covers M b1 a2 a3 a4 a5 = sp_X3_covers_B127 M b1 a5 x4 x5 := hT.trans (if_neg c112)
          have hV : vc_X3_covers_B127 M b1 a5 x4 x5 := iteF hV c112
          exact J127 x4 x5 _ _ _  hT hV hC (lv_sub hl [5, 9, 1, 0] rfl)
        · have hT : sp_X3_covers M b1 a2 a3 a4 a5 = if (sp_X3_isMiddle x5) = 0 then (sp_X3_covers_B128 M b1 a5 x4 x5 1) else (sp_X3_covers_B127 M b1 a5 x4 x5) := hT.trans (if_pos c112)
          have hV : vc_X3_isMiddle M x5 ∧ (if (sp_X3_isMiddle x5) = 0 then vc_X3_covers_B128 M b1 a5 x4 x5 1 else vc_X3_covers_B127 M b1 a5 x4 x5) := iteT hV c112
          refine lv_iload hx hb dX3_covers_115 (lv_at hl 0 rfl) ?_
          obtain ⟨v117, hV⟩ : vc_X3_isMiddle M x5 ∧ (if (sp_X3_isMiddle x5) = 0 then vc_X3_covers_B128 M b1 a5 x4 x5 1 else vc_X3_covers_B127 M b1 a5 x4 x5) := hV
          refine q_Ci (q_S (own := "MazeBoard$Picture") (y := yX3_isMiddle) (As := [.int x5]) (rest := []) ⟨hx, hb, hml, hown, hB⟩ hK hE hC (c_X3_isMiddle l D cy ad L H.size M x5 v117) mw_2_232 mw_2_233 mw_1_9 mw_2_234 yd_X3_isMiddle ⟨rfl, rfl⟩ ⟨Nat.le_of_ble_eq_true rfl, Nat.le_of_ble_eq_true rfl⟩ rfl hl.1 rfl (Nat.le_of_ble_eq_true rfl) dX3_covers_117 ⟨Nat.le_refl _, Nat.le_refl _⟩) hC (fun r N_ H locs hp hC => ?_)
          obtain ⟨hr_, hM_⟩ := hp
          subst hr_
          rw [hM_] at hC
          refine lv_if_ne (tgt := 127) hx hb dX3_covers_120 (by decide) (fun c120 => ?_) (fun c120 => ?_)
          · have hT : sp_X3_covers M b1 a2 a3 a4 a5 = sp_X3_covers_B127 M b1 a5 x4 x5 := hT.trans (if_neg c120)
            have hV : vc_X3_covers_B127 M b1 a5 x4 x5 := iteF hV c120
            exact J127 x4 x5 _ _ _  hT hV hC (lv_sub hl [5, 9, 1, 0] rfl)
          · have hT : sp_X3_covers M b1 a2 a3 a4 a5 = sp_X3_covers_B128 M b1 a5 x4 x5 1 := hT.trans (if_pos c120)
            have hV : vc_X3_covers_B128 M b1 a5 x4 x5 1 := iteT hV c120
            refine lv_iconst (v := 1) hx hb dX3_covers_123 (by decide) ?_
            refine lv_goto (tgt := 128) hx hb dX3_covers_124 (by decide) ?_
            exact J128 x4 x5 1 _ _ _  hT hV hC (lv_sub hl [5, 9, 1, 0] rfl)
      · have hT : sp_X3_covers M b1 a2 a3 a4 a5 = if (sp_X3_isMiddle x4) = 0 then (if x5 ≤ 0 then (sp_X3_covers_B106 0) else sp_X3_covers_B101) else sp_X3_covers_B101 := hT.trans (if_neg c85)
        have hV : vc_X3_isMiddle M x4 ∧ (if (sp_X3_isMiddle x4) = 0 then (if x5 ≤ 0 then vc_X3_covers_B106 0 else vc_X3_covers_B101) else vc_X3_covers_B101) := iteF hV c85
        refine lv_iload hx hb dX3_covers_88 (lv_at hl 1 rfl) ?_
        obtain ⟨v90, hV⟩ : vc_X3_isMiddle M x4 ∧ (if (sp_X3_isMiddle x4) = 0 then (if x5 ≤ 0 then vc_X3_covers_B106 0 else vc_X3_covers_B101) else vc_X3_covers_B101) := hV
        refine q_Ci (q_S (own := "MazeBoard$Picture") (y := yX3_isMiddle) (As := [.int x4]) (rest := []) ⟨hx, hb, hml, hown, hB⟩ hK hE hC (c_X3_isMiddle l D cy ad L H.size M x4 v90) mw_2_232 mw_2_233 mw_1_9 mw_2_234 yd_X3_isMiddle ⟨rfl, rfl⟩ ⟨Nat.le_of_ble_eq_true rfl, Nat.le_of_ble_eq_true rfl⟩ rfl hl.1 rfl (Nat.le_of_ble_eq_true rfl) dX3_covers_90 ⟨Nat.le_refl _, Nat.le_refl _⟩) hC (fun r N_ H locs hp hC => ?_)
        obtain ⟨hr_, hM_⟩ := hp
        subst hr_
        rw [hM_] at hC
        refine lv_if_ne (tgt := 101) hx hb dX3_covers_93 (by decide) (fun c93 => ?_) (fun c93 => ?_)
        · have hT : sp_X3_covers M b1 a2 a3 a4 a5 = sp_X3_covers_B101 := hT.trans (if_neg c93)
          have hV : vc_X3_covers_B101 := iteF hV c93
          exact J101  _ _ _  hT hV hC (lv_sub hl [] rfl)
        · have hT : sp_X3_covers M b1 a2 a3 a4 a5 = if x5 ≤ 0 then (sp_X3_covers_B106 0) else sp_X3_covers_B101 := hT.trans (if_pos c93)
          have hV : if x5 ≤ 0 then vc_X3_covers_B106 0 else vc_X3_covers_B101 := iteT hV c93
          refine lv_iload hx hb dX3_covers_96 (lv_at hl 0 rfl) ?_
          refine lv_if_le (tgt := 105) hx hb dX3_covers_98 (by decide) (fun c98 => ?_) (fun c98 => ?_)
          · have hT : sp_X3_covers M b1 a2 a3 a4 a5 = sp_X3_covers_B106 0 := hT.trans (if_pos c98)
            have hV : vc_X3_covers_B106 0 := iteT hV c98
            refine lv_iconst (v := 0) hx hb dX3_covers_105 (by decide) ?_
            exact J106 0 _ _ _  hT hV hC (lv_sub hl [] rfl)
          · have hT : sp_X3_covers M b1 a2 a3 a4 a5 = sp_X3_covers_B101 := hT.trans (if_neg c98)
            have hV : vc_X3_covers_B101 := iteF hV c98
            exact J101  _ _ _  hT hV hC (lv_sub hl [] rfl)
    · have hT : sp_X3_covers M b1 a2 a3 a4 a5 = sp_X3_covers_B82 := hT.trans (if_neg c79)
      exact J82  _ _ _  hT hC (lv_sub hl [] rfl)
