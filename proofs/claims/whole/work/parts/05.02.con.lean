set_option maxHeartbeats 4000000 in
set_option maxRecDepth 100000 in
theorem c_X6_opposite (l : Launch) (D : va_G) (cy ad : Nat → Nat) (L : List Nat) (sz : Nat) (M : Mem) (a1 : Int32) : Met l yX6_opposite (Cond.code yX6_opposite cX6_opposite 1 (some .int) :: BG) ({ frames := 0, cells := 0, slots := 0, locals := 0 }) (va_Pc [.int a1] (PW D cy ad L M sz)) (va_Qi (fun r N => r = sp_X6_opposite a1 ∧ N = M) (OW D cy ad L sz) (fA ad L sz)) 0 0 (fA ad L sz) := by
  refine q_start (by decide) (Nat.le_of_ble_eq_true rfl) (fun p e s m below meth c H locs ls hsz hx hb hr hlocks hml hown hB hK hE hC hl => ?_)
  subst hsz
  have hown : s.vm.findClass "MazeBoard" = some m.cls := hown
  have hl : lv_has ls 1 [(0, .int a1)] := hl
  have hT : sp_X6_opposite a1 = a1 ^^^ 2 := rfl
  refine lv_iload_n hx hb dX6_opposite_0 rfl (lv_at hl 0 rfl) ?_
  refine lv_iconst (v := 2) hx hb dX6_opposite_1 (by decide) ?_
  refine lv_ixor hx hb dX6_opposite_2 ?_
  exact q_reti hx hb hr hlocks hC ⟨hT.symm, rfl⟩ dX6_opposite_3
set_option maxHeartbeats 4000000 in
set_option maxRecDepth 100000 in
theorem c_X1_turnAbout (l : Launch) (D : va_G) (cy ad : Nat → Nat) (L : List Nat) (sz : Nat) (hL : lr 1 9 L) (M : Mem) (b1 : Nat) (hb1 : isA b1) (hV : vc_X1_turnAbout M b1) : Met l yX1_turnAbout (Cond.code yX1_turnAbout cX1_turnAbout 3 (none) :: BG) ({ frames := 2, cells := 0, slots := 0, locals := 45 }) (va_Pc [.ref (ad 1), .ref (ad b1)] (PW D cy ad L M sz)) (va_Qv (fun N => N = sp_X1_turnAbout M b1) (OW D cy ad L sz) (fA ad L sz)) 0 0 (fA ad L sz) := by
  refine q_start (by decide) (Nat.le_of_ble_eq_true rfl) (fun p e s m below meth c H locs ls hsz hx hb hr hlocks hml hown hB hK hE hC hl => ?_)
  subst hsz
  have hown : s.vm.findClass "MazeBoard$Game" = some m.cls := hown
  have hl : lv_has ls 3 [(0, .ref (ad 1)), (1, .ref (ad b1))] := hl
  have J56 : ∀ (M6 : Mem) (H : Heap) (locs : List Loc) (ls : Array Slot) (hT : sp_X1_turnAbout M b1 = sp_X1_turnAbout_B56 M6) (hC : Cx D cy ad R0 L (fA ad L s.heap.size) s M6 H locs) (hl : lv_has ls 3 []), W p l e ({ frames := 2, cells := 0, slots := 0, locals := 45 }) s m ([.ref (ad 1), .ref (ad b1)] : List Value).toArray below meth c H locs 0 0 (MQ below (va_Qv (fun N => N = sp_X1_turnAbout M b1) (OW D cy ad L s.heap.size) (fA ad L s.heap.size)) ([.ref (ad 1), .ref (ad b1)] : List Value).toArray s 0 0 (fA ad L s.heap.size)) (F0 m 56 ls []) := by
    intro M6 H locs ls  hT hC hl
    have hT : sp_X1_turnAbout M b1 = M6 := hT
    exact q_retv hx hb hr hlocks hC hT.symm dX1_turnAbout_56
  have hT : sp_X1_turnAbout M b1 = sp_X1_turnAbout_n5 M b1 (sp_X6_opposite (gI M b1 2)) := rfl
  have hV : vc_X1_turnAbout_n5 M b1 (sp_X6_opposite (gI M b1 2)) := hV
  refine lv_aload_n hx hb dX1_turnAbout_0 rfl (lv_at hl 1 rfl) ?_
  refine q_geti (T := TX0) hx hb hB uw_X0 hown hK hC (isA.sh hb1) (hL _ (Nat.le_trans (by decide) (hb1).1) (Nat.le_trans (hb1).2 (by decide))) rfl 2 (by decide) rfl (hB _ mw_1_60) dX1_turnAbout_1 ?_
  refine q_Ci (q_N (own := "MazeBoard$Game") (y := yX6_opposite) (As := [.int (gI M b1 2)]) (rest := []) ⟨hx, hb, hml, hown, hB⟩ hK hE hC (c_X6_opposite l D cy ad L H.size M (gI M b1 2)) (nw_X1_162 hE.2) mw_2_91 mw_1_1 mw_2_92 yd_X6_opposite ⟨rfl, rfl⟩ ⟨Nat.le_of_ble_eq_true rfl, Nat.le_of_ble_eq_true rfl⟩ rfl hl.1 rfl (Nat.le_of_ble_eq_true rfl) dX1_turnAbout_4 ⟨Nat.le_refl _, Nat.le_refl _⟩) hC (fun r N_ H locs hp hC => ?_)
  obtain ⟨hr_, hM_⟩ := hp
  subst hr_
  rw [hM_] at hC
  refine lv_topi (fun x1 ex1 => ?_)
  have hT : sp_X1_turnAbout M b1 = sp_X1_turnAbout_n5 M b1 x1 := by rw [ex1]; exact hT
  have hV : vc_X1_turnAbout_n5 M b1 x1 := by rw [ex1]; exact hV
  refine lv_istore_n (lv' := [(2, .int x1), (0, .ref (ad 1)), (1, .ref (ad b1))]) hx hb dX1_turnAbout_7 rfl hl (by decide) rfl (fun ls hl => ?_)
  refine lv_aload_n hx hb dX1_turnAbout_8 rfl (lv_at hl 2 rfl) ?_
  refine q_getf (T := TX0) hx hb hB uw_X0 hown hK hC (isA.sh hb1) (hL _ (Nat.le_trans (by decide) (hb1).1) (Nat.le_trans (hb1).2 (by decide))) rfl 3 (by decide) rfl (hB _ mw_1_63) dX1_turnAbout_9 ?_
  refine lv_fconst0 hx hb dX1_turnAbout_12 ?_
  refine lv_fcmp hx hb dX1_turnAbout_13 ?_
  refine lv_if_eq (tgt := 39) hx hb dX1_turnAbout_14 (by decide) (fun c14 => ?_) (fun c14 => ?_)
  · have hT : sp_X1_turnAbout M b1 = if (sp_X2_isOpen M b1 x1) = 0 then (sp_X1_turnAbout_B56 M) else (sp_X1_turnAbout_n1 (wI M b1 2 x1)) := hT.trans (if_pos c14)
    have hV : vc_X2_isOpen M b1 x1 := iteT hV c14
    refine lv_aload_n hx hb dX1_turnAbout_39 rfl (lv_at hl 1 rfl) ?_
    refine q_getr (T := TX1) hx hb hB uw_X1 hown hK hC rfl (hL 1 (by decide) (by decide)) rfl 0 (by decide) rfl rfl (hB _ mw_1_127) dX1_turnAbout_40 ?_
    refine lv_aload_n hx hb dX1_turnAbout_43 rfl (lv_at hl 2 rfl) ?_
    refine lv_iload_n hx hb dX1_turnAbout_44 rfl (lv_at hl 0 rfl) ?_
    have v45 : vc_X2_isOpen M b1 x1 := hV
    refine q_Ci (q_V (own := "MazeBoard$Game") (y := yX2_isOpen) (As := [.ref (ad b1), .int x1]) (rest := []) ⟨hx, hb, hml, hown, hB⟩ hK hE hC (c_X2_isOpen l D cy ad L H.size (hL.sub (by decide) (by decide)) M b1 hb1 x1 v45) rfl (hL 2 (by decide) (by decide)) rfl mw_2_42 mw_2_43 mw_2_44 mw_1_3 mw_2_45 rfl yd_X2_isOpen ⟨rfl, rfl⟩ ⟨Nat.le_of_ble_eq_true rfl, Nat.le_of_ble_eq_true rfl⟩ rfl hl.1 rfl (Nat.le_of_ble_eq_true rfl) dX1_turnAbout_45 ⟨Nat.le_refl _, Nat.le_refl _⟩) hC (fun r N_ H locs hp hC => ?_)
    obtain ⟨hr_, hM_⟩ := hp
    subst hr_
    rw [hM_] at hC
    refine lv_if_eq (tgt := 56) hx hb dX1_turnAbout_48 (by decide) (fun c48 => ?_) (fun c48 => ?_)
    · have hT : sp_X1_turnAbout M b1 = sp_X1_turnAbout_B56 M := hT.trans (if_pos c48)
      exact J56 M _ _ _  hT hC (lv_sub hl [] rfl)
    · have hT : sp_X1_turnAbout M b1 = sp_X1_turnAbout_n1 (wI M b1 2 x1) := hT.trans (if_neg c48)
      refine lv_aload_n hx hb dX1_turnAbout_51 rfl (lv_at hl 2 rfl) ?_
      refine lv_iload_n hx hb dX1_turnAbout_52 rfl (lv_at hl 0 rfl) ?_
      refine q_puti (T := TX0) hx hb hB uw_X0 tyX0 tyX0_ok nmX0 hown hK hC (isA.sh hb1) (hL _ (Nat.le_trans (by decide) (hb1).1) (Nat.le_trans (hb1).2 (by decide))) rfl 2 (by decide) rfl (hB _ mw_1_60) rfl rfl rfl rfl dX1_turnAbout_53 (fun H locs hC => ?_)
      obtain ⟨M2, eM2⟩ : ∃ z : Mem, z = wI M b1 2 x1 := ⟨_, rfl⟩
      rw [← eM2] at hC
      have hT : sp_X1_turnAbout M b1 = sp_X1_turnAbout_n1 M2 := by rw [eM2]; exact hT
      exact J56 M2 _ _ _  hT hC (lv_sub hl [] rfl)
  · have hT : sp_X1_turnAbout M b1 = sp_X1_turnAbout_n4 b1 x1 (sp_X0_enterNextCell M b1) := hT.trans (if_neg c14)
    have hV : vc_X1_turnAbout_n4 b1 x1 (sp_X0_enterNextCell M b1) := iteF hV c14
    refine lv_aload_n hx hb dX1_turnAbout_17 rfl (lv_at hl 2 rfl) ?_
    refine q_Cv (q_V (own := "MazeBoard$Game") (y := yX0_enterNextCell) (As := []) (rest := []) ⟨hx, hb, hml, hown, hB⟩ hK hE hC (c_X0_enterNextCell l D cy ad L H.size (hL.sub (by decide) (by decide)) M b1 hb1) (isA.sh hb1) (hL _ (Nat.le_trans (by decide) (hb1).1) (Nat.le_trans (hb1).2 (by decide))) rfl mw_2_61 mw_2_62 mw_2_63 mw_1_4 mw_2_64 rfl yd_X0_enterNextCell ⟨rfl, rfl⟩ ⟨Nat.le_of_ble_eq_true rfl, Nat.le_of_ble_eq_true rfl⟩ rfl hl.1 rfl (Nat.le_of_ble_eq_true rfl) dX1_turnAbout_18 ⟨Nat.le_refl _, Nat.le_refl _⟩) hC (fun M3 H locs eM3 hC => ?_)
    have hT : sp_X1_turnAbout M b1 = sp_X1_turnAbout_n4 b1 x1 M3 := by rw [eM3]; exact hT
    have hV : vc_X1_turnAbout_n4 b1 x1 M3 := by rw [eM3]; exact hV
    refine lv_aload_n hx hb dX1_turnAbout_21 rfl (lv_at hl 2 rfl) ?_
    refine lv_iload_n hx hb dX1_turnAbout_22 rfl (lv_at hl 0 rfl) ?_
    refine q_puti (T := TX0) hx hb hB uw_X0 tyX0 tyX0_ok nmX0 hown hK hC (isA.sh hb1) (hL _ (Nat.le_trans (by decide) (hb1).1) (Nat.le_trans (hb1).2 (by decide))) rfl 2 (by decide) rfl (hB _ mw_1_60) rfl rfl rfl rfl dX1_turnAbout_23 (fun H locs hC => ?_)
    obtain ⟨M4, eM4⟩ : ∃ z : Mem, z = wI M3 b1 2 x1 := ⟨_, rfl⟩
    rw [← eM4] at hC
    have hT : sp_X1_turnAbout M b1 = sp_X1_turnAbout_n3 b1 M4 := by rw [eM4]; exact hT
    have hV : vc_X1_turnAbout_n3 b1 M4 := by rw [eM4]; exact hV
    refine lv_aload_n hx hb dX1_turnAbout_26 rfl (lv_at hl 2 rfl) ?_
    refine lv_fconst1 hx hb dX1_turnAbout_27 ?_
    refine lv_aload_n hx hb dX1_turnAbout_28 rfl (lv_at hl 2 rfl) ?_
    refine q_getf (T := TX0) hx hb hB uw_X0 hown hK hC (isA.sh hb1) (hL _ (Nat.le_trans (by decide) (hb1).1) (Nat.le_trans (hb1).2 (by decide))) rfl 3 (by decide) rfl (hB _ mw_1_63) dX1_turnAbout_29 ?_
    have w32 : vf_n32 (FP.fsub FP.fconst1 (gF M4 b1 3)) := hV
    refine lv_fsub hx hb dX1_turnAbout_32 w32 ?_
    refine q_putf (T := TX0) hx hb hB uw_X0 tyX0 tyX0_ok nmX0 hown hK hC (isA.sh hb1) (hL _ (Nat.le_trans (by decide) (hb1).1) (Nat.le_trans (hb1).2 (by decide))) rfl 3 (by decide) rfl (hB _ mw_1_63) rfl rfl dX1_turnAbout_33 (fun H locs hC => ?_)
    obtain ⟨M5, eM5⟩ : ∃ z : Mem, z = wF M4 b1 3 (FP.fsub FP.fconst1 (gF M4 b1 3)) := ⟨_, rfl⟩
    rw [← eM5] at hC
    have hT : sp_X1_turnAbout M b1 = sp_X1_turnAbout_n2 M5 := by rw [eM5]; exact hT
    refine lv_goto (tgt := 56) hx hb dX1_turnAbout_36 (by decide) ?_
    exact J56 M5 _ _ _  hT hC (lv_sub hl [] rfl)
set_option maxHeartbeats 4000000 in
set_option maxRecDepth 100000 in
theorem c_X1_frightenHunters (l : Launch) (D : va_G) (cy ad : Nat → Nat) (L : List Nat) (sz : Nat) (hL : lr 1 9 L) (M : Mem)  (hV : vc_X1_frightenHunters M ) : Met l yX1_frightenHunters (Cond.code yX1_frightenHunters cX1_frightenHunters 2 (none) :: BG) ({ frames := 3, cells := 0, slots := 0, locals := 67 }) (va_Pc [.ref (ad 1)] (PW D cy ad L M sz)) (va_Qv (fun N => N = sp_X1_frightenHunters M) (OW D cy ad L sz) (fA ad L sz)) 0 0 (fA ad L sz) := by
  refine q_start (by decide) (Nat.le_of_ble_eq_true rfl) (fun p e s m below meth c H locs ls hsz hx hb hr hlocks hml hown hB hK hE hC hl => ?_)
  subst hsz
  have hown : s.vm.findClass "MazeBoard$Game" = some m.cls := hown
  have hl : lv_has ls 2 [(0, .ref (ad 1))] := hl
  have J26 : ∀ (n : Nat) (x3 : Int32) (M4 : Mem) (H : Heap) (locs : List Loc) (ls : Array Slot) (hT : sp_X1_frightenHunters M = sp_X1_frightenHunters_B26 n x3 M4) (hV : vc_X1_frightenHunters_B26 n x3 M4) (hC : Cx D cy ad R0 L (fA ad L s.heap.size) s M4 H locs) (hl : lv_has ls 2 [(0, .ref (ad 1)), (1, .int x3)]), W p l e ({ frames := 3, cells := 0, slots := 0, locals := 67 }) s m ([.ref (ad 1)] : List Value).toArray below meth c H locs 0 0 (MQ below (va_Qv (fun N => N = sp_X1_frightenHunters M) (OW D cy ad L s.heap.size) (fA ad L s.heap.size)) ([.ref (ad 1)] : List Value).toArray s 0 0 (fA ad L s.heap.size)) (F0 m 26 ls []) := by
    intro n
    induction n with
    | zero => intro x3 M4 H locs ls  hT hV; exact hV.elim
    | succ n ih =>
      have J63 : ∀ (x3 : Int32) (M7 : Mem) (H : Heap) (locs : List Loc) (ls : Array Slot) (hT : sp_X1_frightenHunters M = sp_X1_frightenHunters_B63 (sp_X1_frightenHunters_B26 n) x3 M7) (hV : vc_X1_frightenHunters_B63 (vc_X1_frightenHunters_B26 n) x3 M7) (hC : Cx D cy ad R0 L (fA ad L s.heap.size) s M7 H locs) (hl : lv_has ls 2 [(0, .ref (ad 1)), (1, .int x3)]), W p l e ({ frames := 3, cells := 0, slots := 0, locals := 67 }) s m ([.ref (ad 1)] : List Value).toArray below meth c H locs 0 0 (MQ below (va_Qv (fun N => N = sp_X1_frightenHunters M) (OW D cy ad L s.heap.size) (fA ad L s.heap.size)) ([.ref (ad 1)] : List Value).toArray s 0 0 (fA ad L s.heap.size)) (F0 m 63 ls []) := by
        intro x3 M7 H locs ls  hT hV hC hl
        have hT : sp_X1_frightenHunters M = sp_X1_frightenHunters_n1 (sp_X1_frightenHunters_B26 n) M7 (x3 + 1) := hT
        have hV : vc_X1_frightenHunters_n1 (vc_X1_frightenHunters_B26 n) M7 (x3 + 1) := hV
        obtain ⟨x8, ex8⟩ : ∃ z : Int32, z = x3 + 1 := ⟨_, rfl⟩
        have hT : sp_X1_frightenHunters M = sp_X1_frightenHunters_n1 (sp_X1_frightenHunters_B26 n) M7 x8 := by rw [ex8]; exact hT
        have hV : vc_X1_frightenHunters_n1 (vc_X1_frightenHunters_B26 n) M7 x8 := by rw [ex8]; exact hV
        refine lv_iinc (v := x8) (lv' := [(1, .int x8), (0, .ref (ad 1))]) hx hb dX1_frightenHunters_63 hl (k := 1) rfl (by rw [ex8]; rfl) (by decide) rfl (fun ls hl => ?_)
        refine lv_goto (tgt := 26) hx hb dX1_frightenHunters_66 (by decide) ?_
        exact ih x8 M7 _ _ _  hT hV hC (lv_sub hl [1, 0] rfl)
      intro x3 M4 H locs ls  hT hV hC hl
      have hT : sp_X1_frightenHunters M = if 5 ≤ x3 then M4 else (if (gI M4 (5 + x3.toNatClampNeg) 5) = 0 then (sp_X1_frightenHunters_n3 (sp_X1_frightenHunters_B26 n) x3 (wI M4 (5 + x3.toNatClampNeg) 4 1)) else (sp_X1_frightenHunters_B63 (sp_X1_frightenHunters_B26 n) x3 M4)) := hT
      have hV : if 5 ≤ x3 then True else (vp_in x3 5 ∧ (if (gI M4 (5 + x3.toNatClampNeg) 5) = 0 then (vp_in x3 5 ∧ (vc_X1_frightenHunters_n3 (vc_X1_frightenHunters_B26 n) x3 (wI M4 (5 + x3.toNatClampNeg) 4 1))) else vc_X1_frightenHunters_B63 (vc_X1_frightenHunters_B26 n) x3 M4)) := hV
      refine lv_iload_n hx hb dX1_frightenHunters_26 rfl (lv_at hl 1 rfl) ?_
      refine lv_iconst (v := 5) hx hb dX1_frightenHunters_27 (by decide) ?_
      refine lv_icmp_ge (tgt := 69) hx hb dX1_frightenHunters_28 (by decide) (fun c28 => ?_) (fun c28 => ?_)
      · have hT : sp_X1_frightenHunters M = M4 := hT.trans (if_pos c28)
        exact q_retv hx hb hr hlocks hC hT.symm dX1_frightenHunters_69
      · have hT : sp_X1_frightenHunters M = if (gI M4 (5 + x3.toNatClampNeg) 5) = 0 then (sp_X1_frightenHunters_n3 (sp_X1_frightenHunters_B26 n) x3 (wI M4 (5 + x3.toNatClampNeg) 4 1)) else (sp_X1_frightenHunters_B63 (sp_X1_frightenHunters_B26 n) x3 M4) := hT.trans (if_neg c28)
        have hV : vp_in x3 5 ∧ (if (gI M4 (5 + x3.toNatClampNeg) 5) = 0 then (vp_in x3 5 ∧ (vc_X1_frightenHunters_n3 (vc_X1_frightenHunters_B26 n) x3 (wI M4 (5 + x3.toNatClampNeg) 4 1))) else vc_X1_frightenHunters_B63 (vc_X1_frightenHunters_B26 n) x3 M4) := iteF hV c28
        refine lv_aload_n hx hb dX1_frightenHunters_31 rfl (lv_at hl 0 rfl) ?_
        refine q_getr (T := TX1) hx hb hB uw_X1 hown hK hC rfl (hL 1 (by decide) (by decide)) rfl 1 (by decide) rfl rfl (hB _ mw_1_129) dX1_frightenHunters_32 ?_
        refine lv_iload_n hx hb dX1_frightenHunters_35 rfl (lv_at hl 1 rfl) ?_
        obtain ⟨w36, hV⟩ : vp_in x3 5 ∧ (if (gI M4 (5 + x3.toNatClampNeg) 5) = 0 then (vp_in x3 5 ∧ (vc_X1_frightenHunters_n3 (vc_X1_frightenHunters_B26 n) x3 (wI M4 (5 + x3.toNatClampNeg) 4 1))) else vc_X1_frightenHunters_B63 (vc_X1_frightenHunters_B26 n) x3 M4) := hV
        refine q_aald hx hb hK hC rfl (hL 4 (by decide) (by decide)) rfl w36 rfl dX1_frightenHunters_36 ?_
        refine q_geti (T := TX0) hx hb hB uw_X0 hown hK hC (isA.sh (isA.of w36)) (hL _ (Nat.le_trans (by decide) ((isA.of w36)).1) (Nat.le_trans ((isA.of w36)).2 (by decide))) rfl 5 (by decide) rfl (hB _ mw_1_72) dX1_frightenHunters_37 ?_
        refine lv_if_ne (tgt := 63) hx hb dX1_frightenHunters_40 (by decide) (fun c40 => ?_) (fun c40 => ?_)
        · have hT : sp_X1_frightenHunters M = sp_X1_frightenHunters_B63 (sp_X1_frightenHunters_B26 n) x3 M4 := hT.trans (if_neg c40)
          have hV : vc_X1_frightenHunters_B63 (vc_X1_frightenHunters_B26 n) x3 M4 := iteF hV c40
          exact J63 x3 M4 _ _ _  hT hV hC (lv_sub hl [0, 1] rfl)
        · have hT : sp_X1_frightenHunters M = sp_X1_frightenHunters_n3 (sp_X1_frightenHunters_B26 n) x3 (wI M4 (5 + x3.toNatClampNeg) 4 1) := hT.trans (if_pos c40)
          have hV : vp_in x3 5 ∧ (vc_X1_frightenHunters_n3 (vc_X1_frightenHunters_B26 n) x3 (wI M4 (5 + x3.toNatClampNeg) 4 1)) := iteT hV c40
          refine lv_aload_n hx hb dX1_frightenHunters_43 rfl (lv_at hl 0 rfl) ?_
          refine q_getr (T := TX1) hx hb hB uw_X1 hown hK hC rfl (hL 1 (by decide) (by decide)) rfl 1 (by decide) rfl rfl (hB _ mw_1_129) dX1_frightenHunters_44 ?_
          refine lv_iload_n hx hb dX1_frightenHunters_47 rfl (lv_at hl 1 rfl) ?_
          obtain ⟨w48, hV⟩ : vp_in x3 5 ∧ (vc_X1_frightenHunters_n3 (vc_X1_frightenHunters_B26 n) x3 (wI M4 (5 + x3.toNatClampNeg) 4 1)) := hV
          refine q_aald hx hb hK hC rfl (hL 4 (by decide) (by decide)) rfl w48 rfl dX1_frightenHunters_48 ?_
          refine lv_iconst (v := 1) hx hb dX1_frightenHunters_49 (by decide) ?_
          refine q_puti (T := TX0) hx hb hB uw_X0 tyX0 tyX0_ok nmX0 hown hK hC (isA.sh (isA.of w48)) (hL _ (Nat.le_trans (by decide) ((isA.of w48)).1) (Nat.le_trans ((isA.of w48)).2 (by decide))) rfl 4 (by decide) rfl (hB _ mw_1_67) rfl rfl (by decide) (by decide) dX1_frightenHunters_50 (fun H locs hC => ?_)
          obtain ⟨M5, eM5⟩ : ∃ z : Mem, z = wI M4 (5 + x3.toNatClampNeg) 4 1 := ⟨_, rfl⟩
          rw [← eM5] at hC
          have hT : sp_X1_frightenHunters M = sp_X1_frightenHunters_n3 (sp_X1_frightenHunters_B26 n) x3 M5 := by rw [eM5]; exact hT
          have hV : vc_X1_frightenHunters_n3 (vc_X1_frightenHunters_B26 n) x3 M5 := by rw [eM5]; exact hV
          refine lv_aload_n hx hb dX1_frightenHunters_53 rfl (lv_at hl 0 rfl) ?_
          refine lv_aload_n hx hb dX1_frightenHunters_54 rfl (lv_at hl 0 rfl) ?_
          refine q_getr (T := TX1) hx hb hB uw_X1 hown hK hC rfl (hL 1 (by decide) (by decide)) rfl 1 (by decide) rfl rfl (hB _ mw_1_129) dX1_frightenHunters_55 ?_
          refine lv_iload_n hx hb dX1_frightenHunters_58 rfl (lv_at hl 1 rfl) ?_
          obtain ⟨w59, hV⟩ : vp_in x3 5 ∧ ((vc_X1_turnAbout M5 (5 + x3.toNatClampNeg)) ∧ (vc_X1_frightenHunters_n2 (vc_X1_frightenHunters_B26 n) x3 (sp_X1_turnAbout M5 (5 + x3.toNatClampNeg)))) := hV
          refine q_aald hx hb hK hC rfl (hL 4 (by decide) (by decide)) rfl w59 rfl dX1_frightenHunters_59 ?_
          obtain ⟨v60, hV⟩ : (vc_X1_turnAbout M5 (5 + x3.toNatClampNeg)) ∧ (vc_X1_frightenHunters_n2 (vc_X1_frightenHunters_B26 n) x3 (sp_X1_turnAbout M5 (5 + x3.toNatClampNeg))) := hV
          refine q_Cv (q_V (own := "MazeBoard$Game") (y := yX1_turnAbout) (As := [.ref (ad (5 + x3.toNatClampNeg))]) (rest := []) ⟨hx, hb, hml, hown, hB⟩ hK hE hC (c_X1_turnAbout l D cy ad L H.size (hL.sub (by decide) (by decide)) M5 (5 + x3.toNatClampNeg) (isA.of w59) v60) rfl (hL 1 (by decide) (by decide)) rfl mw_2_86 mw_2_88 mw_0_8 mw_1_2 mw_2_89 rfl yd_X1_turnAbout ⟨rfl, rfl⟩ ⟨Nat.le_of_ble_eq_true rfl, Nat.le_of_ble_eq_true rfl⟩ rfl hl.1 rfl (Nat.le_of_ble_eq_true rfl) dX1_frightenHunters_60 ⟨Nat.le_refl _, Nat.le_refl _⟩) hC (fun M6 H locs eM6 hC => ?_)
          have hT : sp_X1_frightenHunters M = sp_X1_frightenHunters_n2 (sp_X1_frightenHunters_B26 n) x3 M6 := by rw [eM6]; exact hT
          have hV : vc_X1_frightenHunters_n2 (vc_X1_frightenHunters_B26 n) x3 M6 := by rw [eM6]; exact hV
          exact J63 x3 M6 _ _ _  hT hV hC (lv_sub hl [0, 1] rfl)
  have hT : sp_X1_frightenHunters M = sp_X1_frightenHunters_n5 (wI M 1 10 (sp_J9_max_7cf53 (100 - (15 * (gI M 1 7))) 10)) := rfl
  have hV : vc_X1_frightenHunters_n5 (wI M 1 10 (sp_J9_max_7cf53 (100 - (15 * (gI M 1 7))) 10)) := hV
  refine lv_aload_n hx hb dX1_frightenHunters_0 rfl (lv_at hl 0 rfl) ?_
  refine lv_bipush (v := 100) hx hb dX1_frightenHunters_1 (by decide) ?_
  refine lv_bipush (v := 15) hx hb dX1_frightenHunters_3 (by decide) ?_
  refine lv_aload_n hx hb dX1_frightenHunters_5 rfl (lv_at hl 0 rfl) ?_
  refine q_geti (T := TX1) hx hb hB uw_X1 hown hK hC rfl (hL 1 (by decide) (by decide)) rfl 7 (by decide) rfl (hB _ mw_1_141) dX1_frightenHunters_6 ?_
  refine lv_imul hx hb dX1_frightenHunters_9 ?_
  refine lv_isub hx hb dX1_frightenHunters_10 ?_
  refine lv_bipush (v := 10) hx hb dX1_frightenHunters_11 (by decide) ?_
  refine q_Ci (q_S (own := "MazeBoard$Game") (y := yJ9_max_7cf53) (As := [.int (100 - (15 * (gI M 1 7))), .int 10]) (rest := [.ref (ad 1)]) ⟨hx, hb, hml, hown, hB⟩ hK hE hC (c_J9_max_7cf53 l D cy ad L H.size M (100 - (15 * (gI M 1 7))) 10) mw_2_79 mw_2_80 mw_1_8 mw_2_81 yd_J9_max_7cf53 ⟨rfl, rfl⟩ ⟨Nat.le_of_ble_eq_true rfl, Nat.le_of_ble_eq_true rfl⟩ rfl hl.1 rfl (Nat.le_of_ble_eq_true rfl) dX1_frightenHunters_13 ⟨Nat.le_refl _, Nat.le_refl _⟩) hC (fun r N_ H locs hp hC => ?_)
  obtain ⟨hr_, hM_⟩ := hp
  subst hr_
  rw [hM_] at hC
  refine q_puti (T := TX1) hx hb hB uw_X1 tyX1 tyX1_ok nmX1 hown hK hC rfl (hL 1 (by decide) (by decide)) rfl 10 (by decide) rfl (hB _ mw_1_146) rfl rfl rfl rfl dX1_frightenHunters_16 (fun H locs hC => ?_)
  obtain ⟨M1, eM1⟩ : ∃ z : Mem, z = wI M 1 10 (sp_J9_max_7cf53 (100 - (15 * (gI M 1 7))) 10) := ⟨_, rfl⟩
  rw [← eM1] at hC
  have hT : sp_X1_frightenHunters M = sp_X1_frightenHunters_n5 M1 := by rw [eM1]; exact hT
  have hV : vc_X1_frightenHunters_n5 M1 := by rw [eM1]; exact hV
  refine lv_aload_n hx hb dX1_frightenHunters_19 rfl (lv_at hl 0 rfl) ?_
  refine lv_iconst (v := 0) hx hb dX1_frightenHunters_20 (by decide) ?_
  refine q_puti (T := TX1) hx hb hB uw_X1 tyX1 tyX1_ok nmX1 hown hK hC rfl (hL 1 (by decide) (by decide)) rfl 8 (by decide) rfl (hB _ mw_1_143) rfl rfl rfl rfl dX1_frightenHunters_21 (fun H locs hC => ?_)
  obtain ⟨M2, eM2⟩ : ∃ z : Mem, z = wI M1 1 8 0 := ⟨_, rfl⟩
  rw [← eM2] at hC
  have hT : sp_X1_frightenHunters M = sp_X1_frightenHunters_n4 M2 := by rw [eM2]; exact hT
  have hV : vc_X1_frightenHunters_n4 M2 := by rw [eM2]; exact hV
  refine lv_iconst (v := 1) hx hb dX1_frightenHunters_24 (by decide) ?_
  refine lv_istore_n (lv' := [(1, .int 1), (0, .ref (ad 1))]) hx hb dX1_frightenHunters_25 rfl hl (by decide) rfl (fun ls hl => ?_)
  exact J26 6 1 M2 _ _ _  hT hV hC (lv_sub hl [1, 0] rfl)
set_option maxHeartbeats 4000000 in
set_option maxRecDepth 100000 in
theorem c_X2_eat (l : Launch) (D : va_G) (cy ad : Nat → Nat) (L : List Nat) (sz : Nat) (hL : lr 1 9 L) (M : Mem) (a1 : Int32) (a2 : Int32) (hV : vc_X2_eat M a1 a2) : Met l yX2_eat (Cond.code yX2_eat cX2_eat 4 (some .int) :: BG) ({ frames := 1, cells := 0, slots := 0, locals := 22 }) (va_Pc [.ref (ad 2), .int a1, .int a2] (PW D cy ad L M sz)) (va_Qi (fun r N => r = (sp_X2_eat M a1 a2).1 ∧ N = (sp_X2_eat M a1 a2).2) (OW D cy ad L sz) (fA ad L sz)) 0 0 (fA ad L sz) := by
  refine q_start (by decide) (Nat.le_of_ble_eq_true rfl) (fun p e s m below meth c H locs ls hsz hx hb hr hlocks hml hown hB hK hE hC hl => ?_)
  subst hsz
  have hown : s.vm.findClass "MazeBoard$Maze" = some m.cls := hown
  have hl : lv_has ls 4 [(0, .ref (ad 2)), (1, .int a1), (2, .int a2)] := hl
  have J19 : ∀ (x1 : Int32) (H : Heap) (locs : List Loc) (ls : Array Slot) (hT : sp_X2_eat M a1 a2 = sp_X2_eat_B19 M a1 a2 x1) (hV : vc_X2_eat_B19 M a1 a2 x1) (hC : Cx D cy ad R0 L (fA ad L s.heap.size) s M H locs) (hl : lv_has ls 4 [(0, .ref (ad 2)), (1, .int a1), (2, .int a2), (3, .int x1)]), W p l e ({ frames := 1, cells := 0, slots := 0, locals := 22 }) s m ([.ref (ad 2), .int a1, .int a2] : List Value).toArray below meth c H locs 0 0 (MQ below (va_Qi (fun r N => r = (sp_X2_eat M a1 a2).1 ∧ N = (sp_X2_eat M a1 a2).2) (OW D cy ad L s.heap.size) (fA ad L s.heap.size)) ([.ref (ad 2), .int a1, .int a2] : List Value).toArray s 0 0 (fA ad L s.heap.size)) (F0 m 19 ls []) := by
    intro x1 H locs ls  hT hV hC hl
    have hT : sp_X2_eat M a1 a2 = sp_X2_eat_n2 x1 (wI M 3 (((a2 * 13) + a1).toNatClampNeg) 0) := hT
    have hV : (vp_in ((a2 * 13) + a1) 117) := hV
    refine lv_aload_n hx hb dX2_eat_19 rfl (lv_at hl 0 rfl) ?_
    refine q_getr (T := TX2) hx hb hB uw_X2 hown hK hC rfl (hL 2 (by decide) (by decide)) rfl 0 (by decide) rfl rfl (hB _ mw_1_30) dX2_eat_20 ?_
    refine lv_iload_n hx hb dX2_eat_23 rfl (lv_at hl 2 rfl) ?_
    refine lv_bipush (v := 13) hx hb dX2_eat_24 (by decide) ?_
    refine lv_imul hx hb dX2_eat_26 ?_
    refine lv_iload_n hx hb dX2_eat_27 rfl (lv_at hl 1 rfl) ?_
    refine lv_iadd hx hb dX2_eat_28 ?_
    refine lv_iconst (v := 0) hx hb dX2_eat_29 (by decide) ?_
    have w30 : vp_in ((a2 * 13) + a1) 117 := hV
    refine q_bast (v := 0) hx hb hK hC rfl (hL 3 (by decide) (by decide)) rfl w30 rfl (by decide) dX2_eat_30 (fun H locs hC => ?_)
    obtain ⟨M2, eM2⟩ : ∃ z : Mem, z = wI M 3 (((a2 * 13) + a1).toNatClampNeg) 0 := ⟨_, rfl⟩
    rw [← eM2] at hC
    have hT : sp_X2_eat M a1 a2 = sp_X2_eat_n2 x1 M2 := by rw [eM2]; exact hT
    refine lv_aload_n hx hb dX2_eat_31 rfl (lv_at hl 0 rfl) ?_
    refine lv_dup hx hb dX2_eat_32 rfl ?_
    refine q_geti (T := TX2) hx hb hB uw_X2 hown hK hC rfl (hL 2 (by decide) (by decide)) rfl 1 (by decide) rfl (hB _ mw_1_31) dX2_eat_33 ?_
    refine lv_iconst (v := 1) hx hb dX2_eat_36 (by decide) ?_
    refine lv_isub hx hb dX2_eat_37 ?_
    refine q_puti (T := TX2) hx hb hB uw_X2 tyX2 tyX2_ok nmX2 hown hK hC rfl (hL 2 (by decide) (by decide)) rfl 1 (by decide) rfl (hB _ mw_1_31) rfl rfl rfl rfl dX2_eat_38 (fun H locs hC => ?_)
    obtain ⟨M3, eM3⟩ : ∃ z : Mem, z = wI M2 2 1 ((gI M2 2 1) - 1) := ⟨_, rfl⟩
    rw [← eM3] at hC
    have hT : sp_X2_eat M a1 a2 = sp_X2_eat_n1 x1 M3 := by rw [eM3]; exact hT
    refine lv_iload_n hx hb dX2_eat_41 rfl (lv_at hl 3 rfl) ?_
    exact q_reti hx hb hr hlocks hC ⟨(congrArg Prod.fst hT).symm, (congrArg Prod.snd hT).symm⟩ dX2_eat_42
  have hT : sp_X2_eat M a1 a2 = sp_X2_eat_n3 M a1 a2 (sp_X2_whatIs M a1 a2) := rfl
  have hV : vc_X2_whatIs M a1 a2 ∧ (vc_X2_eat_n3 M a1 a2 (sp_X2_whatIs M a1 a2)) := hV
  refine lv_aload_n hx hb dX2_eat_0 rfl (lv_at hl 0 rfl) ?_
  refine lv_iload_n hx hb dX2_eat_1 rfl (lv_at hl 1 rfl) ?_
  refine lv_iload_n hx hb dX2_eat_2 rfl (lv_at hl 2 rfl) ?_
  obtain ⟨v3, hV⟩ : vc_X2_whatIs M a1 a2 ∧ (vc_X2_eat_n3 M a1 a2 (sp_X2_whatIs M a1 a2)) := hV
  refine q_Ci (q_V (own := "MazeBoard$Maze") (y := yX2_whatIs) (As := [.int a1, .int a2]) (rest := []) ⟨hx, hb, hml, hown, hB⟩ hK hE hC (c_X2_whatIs l D cy ad L H.size (hL.sub (by decide) (by decide)) M a1 a2 v3) rfl (hL 2 (by decide) (by decide)) rfl mw_2_52 mw_2_53 mw_2_54 mw_1_3 mw_2_55 rfl yd_X2_whatIs ⟨rfl, rfl⟩ ⟨Nat.le_of_ble_eq_true rfl, Nat.le_of_ble_eq_true rfl⟩ rfl hl.1 rfl (Nat.le_of_ble_eq_true rfl) dX2_eat_3 ⟨Nat.le_refl _, Nat.le_refl _⟩) hC (fun r N_ H locs hp hC => ?_)
  obtain ⟨hr_, hM_⟩ := hp
  subst hr_
  rw [hM_] at hC
  refine lv_topi (fun x1 ex1 => ?_)
  have hT : sp_X2_eat M a1 a2 = sp_X2_eat_n3 M a1 a2 x1 := by rw [ex1]; exact hT
  have hV : vc_X2_eat_n3 M a1 a2 x1 := by rw [ex1]; exact hV
  refine lv_istore_n (lv' := [(3, .int x1), (0, .ref (ad 2)), (1, .int a1), (2, .int a2)]) hx hb dX2_eat_6 rfl hl (by decide) rfl (fun ls hl => ?_)
  refine lv_iload_n hx hb dX2_eat_7 rfl (lv_at hl 0 rfl) ?_
  refine lv_iconst (v := 2) hx hb dX2_eat_8 (by decide) ?_
  refine lv_icmp_eq (tgt := 19) hx hb dX2_eat_9 (by decide) (fun c9 => ?_) (fun c9 => ?_)
  · have hT : sp_X2_eat M a1 a2 = sp_X2_eat_B19 M a1 a2 x1 := hT.trans (if_pos c9)
    have hV : vc_X2_eat_B19 M a1 a2 x1 := iteT hV c9
    exact J19 x1 _ _ _  hT hV hC (lv_sub hl [1, 2, 3, 0] rfl)
  · have hT : sp_X2_eat M a1 a2 = if x1 = 3 then (sp_X2_eat_B19 M a1 a2 x1) else (0, M) := hT.trans (if_neg c9)
    have hV : if x1 = 3 then vc_X2_eat_B19 M a1 a2 x1 else True := iteF hV c9
    refine lv_iload_n hx hb dX2_eat_12 rfl (lv_at hl 0 rfl) ?_
    refine lv_iconst (v := 3) hx hb dX2_eat_13 (by decide) ?_
    refine lv_icmp_eq (tgt := 19) hx hb dX2_eat_14 (by decide) (fun c14 => ?_) (fun c14 => ?_)
    · have hT : sp_X2_eat M a1 a2 = sp_X2_eat_B19 M a1 a2 x1 := hT.trans (if_pos c14)
      have hV : vc_X2_eat_B19 M a1 a2 x1 := iteT hV c14
      exact J19 x1 _ _ _  hT hV hC (lv_sub hl [1, 2, 3, 0] rfl)
    · have hT : sp_X2_eat M a1 a2 = (0, M) := hT.trans (if_neg c14)
      refine lv_iconst (v := 0) hx hb dX2_eat_17 (by decide) ?_
      exact q_reti hx hb hr hlocks hC ⟨(congrArg Prod.fst hT).symm, (congrArg Prod.snd hT).symm⟩ dX2_eat_18
set_option maxHeartbeats 4000000 in
set_option maxRecDepth 100000 in
theorem c_X1_eatHere (l : Launch) (D : va_G) (cy ad : Nat → Nat) (L : List Nat) (sz : Nat) (hL : lr 1 9 L) (M : Mem)  (hV : vc_X1_eatHere M ) : Met l yX1_eatHere (Cond.code yX1_eatHere cX1_eatHere 2 (none) :: BG) ({ frames := 4, cells := 0, slots := 0, locals := 88 }) (va_Pc [.ref (ad 1)] (PW D cy ad L M sz)) (va_Qv (fun N => N = sp_X1_eatHere M) (OW D cy ad L sz) (fA ad L sz)) 0 0 (fA ad L sz) := by
  refine q_start (by decide) (Nat.le_of_ble_eq_true rfl) (fun p e s m below meth c H locs ls hsz hx hb hr hlocks hml hown hB hK hE hC hl => ?_)
  subst hsz
  have hown : s.vm.findClass "MazeBoard$Game" = some m.cls := hown
  have hl : lv_has ls 2 [(0, .ref (ad 1))] := hl
  have J61 : ∀ (M8 : Mem) (H : Heap) (locs : List Loc) (ls : Array Slot) (hT : sp_X1_eatHere M = sp_X1_eatHere_B61 M8) (hC : Cx D cy ad R0 L (fA ad L s.heap.size) s M8 H locs) (hl : lv_has ls 2 []), W p l e ({ frames := 4, cells := 0, slots := 0, locals := 88 }) s m ([.ref (ad 1)] : List Value).toArray below meth c H locs 0 0 (MQ below (va_Qv (fun N => N = sp_X1_eatHere M) (OW D cy ad L s.heap.size) (fA ad L s.heap.size)) ([.ref (ad 1)] : List Value).toArray s 0 0 (fA ad L s.heap.size)) (F0 m 61 ls []) := by
    intro M8 H locs ls  hT hC hl
    have hT : sp_X1_eatHere M = M8 := hT
    exact q_retv hx hb hr hlocks hC hT.symm dX1_eatHere_61
  have hT : sp_X1_eatHere M = sp_X1_eatHere_n6 ((sp_X2_eat M (gI M 5 0) (gI M 5 1)).2) ((sp_X2_eat M (gI M 5 0) (gI M 5 1)).1) := rfl
  have hV : (vc_X2_eat M (gI M 5 0) (gI M 5 1)) ∧ (vc_X1_eatHere_n6 ((sp_X2_eat M (gI M 5 0) (gI M 5 1)).2) ((sp_X2_eat M (gI M 5 0) (gI M 5 1)).1)) := hV
  refine lv_aload_n hx hb dX1_eatHere_0 rfl (lv_at hl 0 rfl) ?_
  refine q_getr (T := TX1) hx hb hB uw_X1 hown hK hC rfl (hL 1 (by decide) (by decide)) rfl 0 (by decide) rfl rfl (hB _ mw_1_127) dX1_eatHere_1 ?_
  refine lv_aload_n hx hb dX1_eatHere_4 rfl (lv_at hl 0 rfl) ?_
  refine q_getr (T := TX1) hx hb hB uw_X1 hown hK hC rfl (hL 1 (by decide) (by decide)) rfl 2 (by decide) rfl rfl (hB _ mw_1_131) dX1_eatHere_5 ?_
  refine q_geti (T := TX0) hx hb hB uw_X0 hown hK hC rfl (hL 5 (by decide) (by decide)) rfl 0 (by decide) rfl (hB _ mw_1_51) dX1_eatHere_8 ?_
  refine lv_aload_n hx hb dX1_eatHere_11 rfl (lv_at hl 0 rfl) ?_
  refine q_getr (T := TX1) hx hb hB uw_X1 hown hK hC rfl (hL 1 (by decide) (by decide)) rfl 2 (by decide) rfl rfl (hB _ mw_1_131) dX1_eatHere_12 ?_
  refine q_geti (T := TX0) hx hb hB uw_X0 hown hK hC rfl (hL 5 (by decide) (by decide)) rfl 1 (by decide) rfl (hB _ mw_1_56) dX1_eatHere_15 ?_
  obtain ⟨v18, hV⟩ : (vc_X2_eat M (gI M 5 0) (gI M 5 1)) ∧ (vc_X1_eatHere_n6 ((sp_X2_eat M (gI M 5 0) (gI M 5 1)).2) ((sp_X2_eat M (gI M 5 0) (gI M 5 1)).1)) := hV
  refine q_Ci (q_V (own := "MazeBoard$Game") (y := yX2_eat) (As := [.int (gI M 5 0), .int (gI M 5 1)]) (rest := []) ⟨hx, hb, hml, hown, hB⟩ hK hE hC (c_X2_eat l D cy ad L H.size (hL.sub (by decide) (by decide)) M (gI M 5 0) (gI M 5 1) v18) rfl (hL 2 (by decide) (by decide)) rfl mw_2_71 mw_2_72 mw_2_73 mw_1_3 mw_2_74 rfl yd_X2_eat ⟨rfl, rfl⟩ ⟨Nat.le_of_ble_eq_true rfl, Nat.le_of_ble_eq_true rfl⟩ rfl hl.1 rfl (Nat.le_of_ble_eq_true rfl) dX1_eatHere_18 ⟨Nat.le_refl _, Nat.le_refl _⟩) hC (fun x2 M1 H locs hp hC => ?_)
  obtain ⟨ex2, eM1⟩ := hp
  have hT : sp_X1_eatHere M = sp_X1_eatHere_n6 M1 x2 := by rw [ex2, eM1]; exact hT
  have hV : vc_X1_eatHere_n6 M1 x2 := by rw [ex2, eM1]; exact hV
  refine lv_istore_n (lv' := [(1, .int x2), (0, .ref (ad 1))]) hx hb dX1_eatHere_21 rfl hl (by decide) rfl (fun ls hl => ?_)
  refine lv_iload_n hx hb dX1_eatHere_22 rfl (lv_at hl 0 rfl) ?_
  refine lv_iconst (v := 2) hx hb dX1_eatHere_23 (by decide) ?_
  refine lv_icmp_ne (tgt := 41) hx hb dX1_eatHere_24 (by decide) (fun c24 => ?_) (fun c24 => ?_)
  · have hT : sp_X1_eatHere M = if x2 = 3 then (sp_X1_eatHere_n5 (wI M1 1 14 1)) else (sp_X1_eatHere_B61 M1) := hT.trans (if_neg c24)
    have hV : if x2 = 3 then (vc_X1_eatHere_n5 (wI M1 1 14 1)) else True := iteF hV c24
    refine lv_iload_n hx hb dX1_eatHere_41 rfl (lv_at hl 0 rfl) ?_
    refine lv_iconst (v := 3) hx hb dX1_eatHere_42 (by decide) ?_
    refine lv_icmp_ne (tgt := 61) hx hb dX1_eatHere_43 (by decide) (fun c43 => ?_) (fun c43 => ?_)
    · have hT : sp_X1_eatHere M = sp_X1_eatHere_B61 M1 := hT.trans (if_neg c43)
      exact J61 M1 _ _ _  hT hC (lv_sub hl [] rfl)
    · have hT : sp_X1_eatHere M = sp_X1_eatHere_n5 (wI M1 1 14 1) := hT.trans (if_pos c43)
      have hV : vc_X1_eatHere_n5 (wI M1 1 14 1) := iteT hV c43
      refine lv_aload_n hx hb dX1_eatHere_46 rfl (lv_at hl 1 rfl) ?_
      refine lv_iconst (v := 1) hx hb dX1_eatHere_47 (by decide) ?_
      refine q_puti (T := TX1) hx hb hB uw_X1 tyX1 tyX1_ok nmX1 hown hK hC rfl (hL 1 (by decide) (by decide)) rfl 14 (by decide) rfl (hB _ mw_1_154) rfl rfl (by decide) (by decide) dX1_eatHere_48 (fun H locs hC => ?_)
      obtain ⟨M3, eM3⟩ : ∃ z : Mem, z = wI M1 1 14 1 := ⟨_, rfl⟩
      rw [← eM3] at hC
      have hT : sp_X1_eatHere M = sp_X1_eatHere_n5 M3 := by rw [eM3]; exact hT
      have hV : vc_X1_eatHere_n5 M3 := by rw [eM3]; exact hV
      refine lv_aload_n hx hb dX1_eatHere_51 rfl (lv_at hl 1 rfl) ?_
      refine lv_bipush (v := 50) hx hb dX1_eatHere_52 (by decide) ?_
      refine q_Cv (q_V (own := "MazeBoard$Game") (y := yX1_addPoints) (As := [.int 50]) (rest := []) ⟨hx, hb, hml, hown, hB⟩ hK hE hC (c_X1_addPoints l D cy ad L H.size (hL.sub (by decide) (by decide)) M3 50) rfl (hL 1 (by decide) (by decide)) rfl mw_2_75 mw_2_77 mw_0_6 mw_1_2 mw_2_78 rfl yd_X1_addPoints ⟨rfl, rfl⟩ ⟨Nat.le_of_ble_eq_true rfl, Nat.le_of_ble_eq_true rfl⟩ rfl hl.1 rfl (Nat.le_of_ble_eq_true rfl) dX1_eatHere_54 ⟨Nat.le_refl _, Nat.le_refl _⟩) hC (fun M4 H locs eM4 hC => ?_)
      have hT : sp_X1_eatHere M = sp_X1_eatHere_n4 M4 := by rw [eM4]; exact hT
      have hV : vc_X1_eatHere_n4 M4 := by rw [eM4]; exact hV
      refine lv_aload_n hx hb dX1_eatHere_57 rfl (lv_at hl 1 rfl) ?_
      have v58 : vc_X1_frightenHunters M4 := hV
      refine q_Cv (q_V (own := "MazeBoard$Game") (y := yX1_frightenHunters) (As := []) (rest := []) ⟨hx, hb, hml, hown, hB⟩ hK hE hC (c_X1_frightenHunters l D cy ad L H.size (hL.sub (by decide) (by decide)) M4  v58) rfl (hL 1 (by decide) (by decide)) rfl mw_2_82 mw_2_84 mw_0_7 mw_1_2 mw_2_85 rfl yd_X1_frightenHunters ⟨rfl, rfl⟩ ⟨Nat.le_of_ble_eq_true rfl, Nat.le_of_ble_eq_true rfl⟩ rfl hl.1 rfl (Nat.le_of_ble_eq_true rfl) dX1_eatHere_58 ⟨Nat.le_refl _, Nat.le_refl _⟩) hC (fun M5 H locs eM5 hC => ?_)
      have hT : sp_X1_eatHere M = sp_X1_eatHere_n3 M5 := by rw [eM5]; exact hT
      exact J61 M5 _ _ _  hT hC (lv_sub hl [] rfl)
  · have hT : sp_X1_eatHere M = sp_X1_eatHere_n2 (wI M1 1 13 1) := hT.trans (if_pos c24)
    refine lv_aload_n hx hb dX1_eatHere_27 rfl (lv_at hl 1 rfl) ?_
    refine lv_iconst (v := 1) hx hb dX1_eatHere_28 (by decide) ?_
    refine q_puti (T := TX1) hx hb hB uw_X1 tyX1 tyX1_ok nmX1 hown hK hC rfl (hL 1 (by decide) (by decide)) rfl 13 (by decide) rfl (hB _ mw_1_152) rfl rfl (by decide) (by decide) dX1_eatHere_29 (fun H locs hC => ?_)
    obtain ⟨M6, eM6⟩ : ∃ z : Mem, z = wI M1 1 13 1 := ⟨_, rfl⟩
    rw [← eM6] at hC
    have hT : sp_X1_eatHere M = sp_X1_eatHere_n2 M6 := by rw [eM6]; exact hT
    refine lv_aload_n hx hb dX1_eatHere_32 rfl (lv_at hl 1 rfl) ?_
    refine lv_bipush (v := 10) hx hb dX1_eatHere_33 (by decide) ?_
    refine q_Cv (q_V (own := "MazeBoard$Game") (y := yX1_addPoints) (As := [.int 10]) (rest := []) ⟨hx, hb, hml, hown, hB⟩ hK hE hC (c_X1_addPoints l D cy ad L H.size (hL.sub (by decide) (by decide)) M6 10) rfl (hL 1 (by decide) (by decide)) rfl mw_2_75 mw_2_77 mw_0_6 mw_1_2 mw_2_78 rfl yd_X1_addPoints ⟨rfl, rfl⟩ ⟨Nat.le_of_ble_eq_true rfl, Nat.le_of_ble_eq_true rfl⟩ rfl hl.1 rfl (Nat.le_of_ble_eq_true rfl) dX1_eatHere_35 ⟨Nat.le_refl _, Nat.le_refl _⟩) hC (fun M7 H locs eM7 hC => ?_)
    have hT : sp_X1_eatHere M = sp_X1_eatHere_n1 M7 := by rw [eM7]; exact hT
    refine lv_goto (tgt := 61) hx hb dX1_eatHere_38 (by decide) ?_
    exact J61 M7 _ _ _  hT hC (lv_sub hl [] rfl)
set_option maxHeartbeats 4000000 in
set_option maxRecDepth 100000 in
theorem c_J9_min_7cf53 (l : Launch) (D : va_G) (cy ad : Nat → Nat) (L : List Nat) (sz : Nat) (M : Mem) (a1 : Int32) (a2 : Int32) : Met l yJ9_min_7cf53 (Cond.code yJ9_min_7cf53 cJ9_min_7cf53 2 (some .int) :: BG) ({ frames := 0, cells := 0, slots := 0, locals := 0 }) (va_Pc [.int a1, .int a2] (PW D cy ad L M sz)) (va_Qi (fun r N => r = sp_J9_min_7cf53 a1 a2 ∧ N = M) (OW D cy ad L sz) (fA ad L sz)) 0 0 (fA ad L sz) := by
  refine q_startF (by decide +kernel) (Nat.le_of_ble_eq_true rfl) (fun p e s m below meth c H locs ls hsz hx hb hr hlocks hml hown hB hK hE hC hl => ?_)
  subst hsz
  have hown : s.vm.findClass "java/lang/Math" = some m.cls := hown
  have hl : lv_has ls 2 [(0, .int a1), (1, .int a2)] := hl
  have J10 : ∀ (x1 : Int32) (H : Heap) (locs : List Loc) (ls : Array Slot) (hT : sp_J9_min_7cf53 a1 a2 = sp_J9_min_7cf53_B10 x1) (hC : Cx D cy ad R0 L (fA ad L s.heap.size) s M H locs) (hl : lv_has ls 2 []), W p l e ({ frames := 0, cells := 0, slots := 0, locals := 0 }) s m ([.int a1, .int a2] : List Value).toArray below meth c H locs 0 0 (MQ below (va_Qi (fun r N => r = sp_J9_min_7cf53 a1 a2 ∧ N = M) (OW D cy ad L s.heap.size) (fA ad L s.heap.size)) ([.int a1, .int a2] : List Value).toArray s 0 0 (fA ad L s.heap.size)) (F0 m 10 ls [.int x1]) := by
    intro x1 H locs ls  hT hC hl
    have hT : sp_J9_min_7cf53 a1 a2 = x1 := hT
    exact q_reti hx hb hr hlocks hC ⟨hT.symm, rfl⟩ dJ9_min_7cf53_10
  have hT : sp_J9_min_7cf53 a1 a2 = if a2 < a1 then (sp_J9_min_7cf53_B10 a2) else (sp_J9_min_7cf53_B10 a1) := rfl
  refine lv_iload_n hx hb dJ9_min_7cf53_0 rfl (lv_at hl 0 rfl) ?_
  refine lv_iload_n hx hb dJ9_min_7cf53_1 rfl (lv_at hl 1 rfl) ?_
  refine lv_icmp_gt (tgt := 9) hx hb dJ9_min_7cf53_2 (by decide) (fun c2 => ?_) (fun c2 => ?_)
  · have hT : sp_J9_min_7cf53 a1 a2 = sp_J9_min_7cf53_B10 a2 := hT.trans (if_pos c2)
    refine lv_iload_n hx hb dJ9_min_7cf53_9 rfl (lv_at hl 1 rfl) ?_
    exact J10 a2 _ _ _  hT hC (lv_sub hl [] rfl)
  · have hT : sp_J9_min_7cf53 a1 a2 = sp_J9_min_7cf53_B10 a1 := hT.trans (if_neg c2)
    refine lv_iload_n hx hb dJ9_min_7cf53_5 rfl (lv_at hl 0 rfl) ?_
    refine lv_goto (tgt := 10) hx hb dJ9_min_7cf53_6 (by decide) ?_
    exact J10 a1 _ _ _  hT hC (lv_sub hl [] rfl)
set_option maxHeartbeats 4000000 in
set_option maxRecDepth 100000 in
theorem c_X1_eatHunter (l : Launch) (D : va_G) (cy ad : Nat → Nat) (L : List Nat) (sz : Nat) (hL : lr 1 9 L) (M : Mem) (b1 : Nat) (hb1 : isA b1) (hV : vc_X1_eatHunter M b1) : Met l yX1_eatHunter (Cond.code yX1_eatHunter cX1_eatHunter 2 (none) :: BG) ({ frames := 2, cells := 0, slots := 0, locals := 42 }) (va_Pc [.ref (ad 1), .ref (ad b1)] (PW D cy ad L M sz)) (va_Qv (fun N => N = sp_X1_eatHunter M b1) (OW D cy ad L sz) (fA ad L sz)) 0 0 (fA ad L sz) := by
  refine q_start (by decide) (Nat.le_of_ble_eq_true rfl) (fun p e s m below meth c H locs ls hsz hx hb hr hlocks hml hown hB hK hE hC hl => ?_)
  subst hsz
  have hown : s.vm.findClass "MazeBoard$Game" = some m.cls := hown
  have hl : lv_has ls 2 [(0, .ref (ad 1)), (1, .ref (ad b1))] := hl
  have hT : sp_X1_eatHunter M b1 = sp_X1_eatHunter_n4 b1 (wI M 1 14 1) := rfl
  have hV : vc_X1_eatHunter_n4 b1 (wI M 1 14 1) := hV
  refine lv_aload_n hx hb dX1_eatHunter_0 rfl (lv_at hl 0 rfl) ?_
  refine lv_iconst (v := 1) hx hb dX1_eatHunter_1 (by decide) ?_
  refine q_puti (T := TX1) hx hb hB uw_X1 tyX1 tyX1_ok nmX1 hown hK hC rfl (hL 1 (by decide) (by decide)) rfl 14 (by decide) rfl (hB _ mw_1_154) rfl rfl (by decide) (by decide) dX1_eatHunter_2 (fun H locs hC => ?_)
  obtain ⟨M1, eM1⟩ : ∃ z : Mem, z = wI M 1 14 1 := ⟨_, rfl⟩
  rw [← eM1] at hC
  have hT : sp_X1_eatHunter M b1 = sp_X1_eatHunter_n4 b1 M1 := by rw [eM1]; exact hT
  have hV : vc_X1_eatHunter_n4 b1 M1 := by rw [eM1]; exact hV
  refine lv_aload_n hx hb dX1_eatHunter_5 rfl (lv_at hl 0 rfl) ?_
  refine lv_sipush (v := 200) hx hb dX1_eatHunter_6 (by decide) ?_
  refine lv_aload_n hx hb dX1_eatHunter_9 rfl (lv_at hl 0 rfl) ?_
  refine q_geti (T := TX1) hx hb hB uw_X1 hown hK hC rfl (hL 1 (by decide) (by decide)) rfl 8 (by decide) rfl (hB _ mw_1_143) dX1_eatHunter_10 ?_
  refine lv_ishl hx hb dX1_eatHunter_13 ?_
  refine q_Cv (q_V (own := "MazeBoard$Game") (y := yX1_addPoints) (As := [.int (200 <<< ((gI M1 1 8) &&& 31))]) (rest := []) ⟨hx, hb, hml, hown, hB⟩ hK hE hC (c_X1_addPoints l D cy ad L H.size (hL.sub (by decide) (by decide)) M1 (200 <<< ((gI M1 1 8) &&& 31))) rfl (hL 1 (by decide) (by decide)) rfl mw_2_75 mw_2_77 mw_0_6 mw_1_2 mw_2_78 rfl yd_X1_addPoints ⟨rfl, rfl⟩ ⟨Nat.le_of_ble_eq_true rfl, Nat.le_of_ble_eq_true rfl⟩ rfl hl.1 rfl (Nat.le_of_ble_eq_true rfl) dX1_eatHunter_14 ⟨Nat.le_refl _, Nat.le_refl _⟩) hC (fun M2 H locs eM2 hC => ?_)
  have hT : sp_X1_eatHunter M b1 = sp_X1_eatHunter_n3 b1 M2 := by rw [eM2]; exact hT
  have hV : vc_X1_eatHunter_n3 b1 M2 := by rw [eM2]; exact hV
  refine lv_aload_n hx hb dX1_eatHunter_17 rfl (lv_at hl 0 rfl) ?_
  refine lv_aload_n hx hb dX1_eatHunter_18 rfl (lv_at hl 0 rfl) ?_
  refine q_geti (T := TX1) hx hb hB uw_X1 hown hK hC rfl (hL 1 (by decide) (by decide)) rfl 8 (by decide) rfl (hB _ mw_1_143) dX1_eatHunter_19 ?_
  refine lv_iconst (v := 1) hx hb dX1_eatHunter_22 (by decide) ?_
  refine lv_iadd hx hb dX1_eatHunter_23 ?_
  refine lv_iconst (v := 3) hx hb dX1_eatHunter_24 (by decide) ?_
  refine q_Ci (q_S (own := "MazeBoard$Game") (y := yJ9_min_7cf53) (As := [.int ((gI M2 1 8) + 1), .int 3]) (rest := [.ref (ad 1)]) ⟨hx, hb, hml, hown, hB⟩ hK hE hC (c_J9_min_7cf53 l D cy ad L H.size M2 ((gI M2 1 8) + 1) 3) mw_2_58 mw_2_59 mw_1_8 mw_2_60 yd_J9_min_7cf53 ⟨rfl, rfl⟩ ⟨Nat.le_of_ble_eq_true rfl, Nat.le_of_ble_eq_true rfl⟩ rfl hl.1 rfl (Nat.le_of_ble_eq_true rfl) dX1_eatHunter_25 ⟨Nat.le_refl _, Nat.le_refl _⟩) hC (fun r N_ H locs hp hC => ?_)
  obtain ⟨hr_, hM_⟩ := hp
  subst hr_
  rw [hM_] at hC
  refine q_puti (T := TX1) hx hb hB uw_X1 tyX1 tyX1_ok nmX1 hown hK hC rfl (hL 1 (by decide) (by decide)) rfl 8 (by decide) rfl (hB _ mw_1_143) rfl rfl rfl rfl dX1_eatHunter_28 (fun H locs hC => ?_)
  obtain ⟨M3, eM3⟩ : ∃ z : Mem, z = wI M2 1 8 (sp_J9_min_7cf53 ((gI M2 1 8) + 1) 3) := ⟨_, rfl⟩
  rw [← eM3] at hC
  have hT : sp_X1_eatHunter M b1 = sp_X1_eatHunter_n2 b1 M3 := by rw [eM3]; exact hT
  have hV : vc_X1_eatHunter_n2 b1 M3 := by rw [eM3]; exact hV
  refine lv_aload_n hx hb dX1_eatHunter_31 rfl (lv_at hl 1 rfl) ?_
  refine lv_bipush (v := 6) hx hb dX1_eatHunter_32 (by decide) ?_
  refine lv_iconst (v := 4) hx hb dX1_eatHunter_34 (by decide) ?_
  refine lv_iconst (v := 0) hx hb dX1_eatHunter_35 (by decide) ?_
  refine lv_bipush (v := 30) hx hb dX1_eatHunter_36 (by decide) ?_
  have v38 : vc_X0_place M3 b1 6 4 0 30 := hV
  refine q_Cv (q_V (own := "MazeBoard$Game") (y := yX0_place) (As := [.int 6, .int 4, .int 0, .int 30]) (rest := []) ⟨hx, hb, hml, hown, hB⟩ hK hE hC (c_X0_place l D cy ad L H.size (hL.sub (by decide) (by decide)) M3 b1 hb1 6 4 0 30 v38) (isA.sh hb1) (hL _ (Nat.le_trans (by decide) (hb1).1) (Nat.le_trans (hb1).2 (by decide))) rfl mw_1_123 mw_1_124 mw_1_125 mw_1_4 mw_1_126 rfl yd_X0_place ⟨rfl, rfl⟩ ⟨Nat.le_of_ble_eq_true rfl, Nat.le_of_ble_eq_true rfl⟩ rfl hl.1 rfl (Nat.le_of_ble_eq_true rfl) dX1_eatHunter_38 ⟨Nat.le_refl _, Nat.le_refl _⟩) hC (fun M4 H locs eM4 hC => ?_)
  have hT : sp_X1_eatHunter M b1 = sp_X1_eatHunter_n1 M4 := by rw [eM4]; exact hT
  exact q_retv hx hb hr hlocks hC hT.symm dX1_eatHunter_41
set_option maxHeartbeats 4000000 in
set_option maxRecDepth 100000 in
theorem c_X1_loseLife (l : Launch) (D : va_G) (cy ad : Nat → Nat) (L : List Nat) (sz : Nat) (hL : lr 1 9 L) (M : Mem)  (hV : vc_X1_loseLife M ) : Met l yX1_loseLife (Cond.code yX1_loseLife cX1_loseLife 1 (none) :: BG) ({ frames := 2, cells := 0, slots := 0, locals := 44 }) (va_Pc [.ref (ad 1)] (PW D cy ad L M sz)) (va_Qv (fun N => N = sp_X1_loseLife M) (OW D cy ad L sz) (fA ad L sz)) 0 0 (fA ad L sz) := by
  refine q_start (by decide) (Nat.le_of_ble_eq_true rfl) (fun p e s m below meth c H locs ls hsz hx hb hr hlocks hml hown hB hK hE hC hl => ?_)
  subst hsz
  have hown : s.vm.findClass "MazeBoard$Game" = some m.cls := hown
  have hl : lv_has ls 1 [(0, .ref (ad 1))] := hl
  have J34 : ∀ (M5 : Mem) (H : Heap) (locs : List Loc) (ls : Array Slot) (hT : sp_X1_loseLife M = sp_X1_loseLife_B34 M5) (hC : Cx D cy ad R0 L (fA ad L s.heap.size) s M5 H locs) (hl : lv_has ls 1 []), W p l e ({ frames := 2, cells := 0, slots := 0, locals := 44 }) s m ([.ref (ad 1)] : List Value).toArray below meth c H locs 0 0 (MQ below (va_Qv (fun N => N = sp_X1_loseLife M) (OW D cy ad L s.heap.size) (fA ad L s.heap.size)) ([.ref (ad 1)] : List Value).toArray s 0 0 (fA ad L s.heap.size)) (F0 m 34 ls []) := by
    intro M5 H locs ls  hT hC hl
    have hT : sp_X1_loseLife M = M5 := hT
    exact q_retv hx hb hr hlocks hC hT.symm dX1_loseLife_34
  have hT : sp_X1_loseLife M = sp_X1_loseLife_n4 (wI M 1 15 1) := rfl
  have hV : vc_X1_loseLife_n4 (wI M 1 15 1) := hV
  refine lv_aload_n hx hb dX1_loseLife_0 rfl (lv_at hl 0 rfl) ?_
  refine lv_iconst (v := 1) hx hb dX1_loseLife_1 (by decide) ?_
  refine q_puti (T := TX1) hx hb hB uw_X1 tyX1 tyX1_ok nmX1 hown hK hC rfl (hL 1 (by decide) (by decide)) rfl 15 (by decide) rfl (hB _ mw_1_156) rfl rfl (by decide) (by decide) dX1_loseLife_2 (fun H locs hC => ?_)
  obtain ⟨M1, eM1⟩ : ∃ z : Mem, z = wI M 1 15 1 := ⟨_, rfl⟩
  rw [← eM1] at hC
  have hT : sp_X1_loseLife M = sp_X1_loseLife_n4 M1 := by rw [eM1]; exact hT
  have hV : vc_X1_loseLife_n4 M1 := by rw [eM1]; exact hV
  refine lv_aload_n hx hb dX1_loseLife_5 rfl (lv_at hl 0 rfl) ?_
  refine lv_dup hx hb dX1_loseLife_6 rfl ?_
  refine q_geti (T := TX1) hx hb hB uw_X1 hown hK hC rfl (hL 1 (by decide) (by decide)) rfl 6 (by decide) rfl (hB _ mw_1_139) dX1_loseLife_7 ?_
  refine lv_iconst (v := 1) hx hb dX1_loseLife_10 (by decide) ?_
  refine lv_isub hx hb dX1_loseLife_11 ?_
  refine q_puti (T := TX1) hx hb hB uw_X1 tyX1 tyX1_ok nmX1 hown hK hC rfl (hL 1 (by decide) (by decide)) rfl 6 (by decide) rfl (hB _ mw_1_139) rfl rfl rfl rfl dX1_loseLife_12 (fun H locs hC => ?_)
  obtain ⟨M2, eM2⟩ : ∃ z : Mem, z = wI M1 1 6 ((gI M1 1 6) - 1) := ⟨_, rfl⟩
  rw [← eM2] at hC
  have hT : sp_X1_loseLife M = sp_X1_loseLife_n3 M2 := by rw [eM2]; exact hT
  have hV : vc_X1_loseLife_n3 M2 := by rw [eM2]; exact hV
  refine lv_aload_n hx hb dX1_loseLife_15 rfl (lv_at hl 0 rfl) ?_
  refine q_geti (T := TX1) hx hb hB uw_X1 hown hK hC rfl (hL 1 (by decide) (by decide)) rfl 6 (by decide) rfl (hB _ mw_1_139) dX1_loseLife_16 ?_
  refine lv_if_ne (tgt := 30) hx hb dX1_loseLife_19 (by decide) (fun c19 => ?_) (fun c19 => ?_)
  · have hT : sp_X1_loseLife M = sp_X1_loseLife_n2 (sp_X1_placeActors M2) := hT.trans (if_neg c19)
    have hV : vc_X1_placeActors M2 := iteF hV c19
    refine lv_aload_n hx hb dX1_loseLife_30 rfl (lv_at hl 0 rfl) ?_
    have v31 : vc_X1_placeActors M2 := hV
    refine q_Cv (q_V (own := "MazeBoard$Game") (y := yX1_placeActors) (As := []) (rest := []) ⟨hx, hb, hml, hown, hB⟩ hK hE hC (c_X1_placeActors l D cy ad L H.size (hL.sub (by decide) (by decide)) M2  v31) rfl (hL 1 (by decide) (by decide)) rfl mw_1_119 mw_1_121 mw_0_1 mw_1_2 mw_1_122 rfl yd_X1_placeActors ⟨rfl, rfl⟩ ⟨Nat.le_of_ble_eq_true rfl, Nat.le_of_ble_eq_true rfl⟩ rfl hl.1 rfl (Nat.le_of_ble_eq_true rfl) dX1_loseLife_31 ⟨Nat.le_refl _, Nat.le_refl _⟩) hC (fun M3 H locs eM3 hC => ?_)
    have hT : sp_X1_loseLife M = sp_X1_loseLife_n2 M3 := by rw [eM3]; exact hT
    exact J34 M3 _ _ _  hT hC (lv_sub hl [] rfl)
  · have hT : sp_X1_loseLife M = sp_X1_loseLife_n1 (wI M2 1 3 0) := hT.trans (if_pos c19)
    refine lv_aload_n hx hb dX1_loseLife_22 rfl (lv_at hl 0 rfl) ?_
    refine lv_iconst (v := 0) hx hb dX1_loseLife_23 (by decide) ?_
    refine q_puti (T := TX1) hx hb hB uw_X1 tyX1 tyX1_ok nmX1 hown hK hC rfl (hL 1 (by decide) (by decide)) rfl 3 (by decide) rfl (hB _ mw_1_132) rfl rfl (by decide) (by decide) dX1_loseLife_24 (fun H locs hC => ?_)
    obtain ⟨M4, eM4⟩ : ∃ z : Mem, z = wI M2 1 3 0 := ⟨_, rfl⟩
    rw [← eM4] at hC
    have hT : sp_X1_loseLife M = sp_X1_loseLife_n1 M4 := by rw [eM4]; exact hT
    refine lv_goto (tgt := 34) hx hb dX1_loseLife_27 (by decide) ?_
    exact J34 M4 _ _ _  hT hC (lv_sub hl [] rfl)
set_option maxHeartbeats 4000000 in
set_option maxRecDepth 100000 in
theorem c_X1_meetHunters (l : Launch) (D : va_G) (cy ad : Nat → Nat) (L : List Nat) (sz : Nat) (hL : lr 1 9 L) (M : Mem)  (hV : vc_X1_meetHunters M ) : Met l yX1_meetHunters (Cond.code yX1_meetHunters cX1_meetHunters 3 (none) :: BG) ({ frames := 3, cells := 0, slots := 0, locals := 64 }) (va_Pc [.ref (ad 1)] (PW D cy ad L M sz)) (va_Qv (fun N => N = sp_X1_meetHunters M) (OW D cy ad L sz) (fA ad L sz)) 0 0 (fA ad L sz) := by
  refine q_start (by decide) (Nat.le_of_ble_eq_true rfl) (fun p e s m below meth c H locs ls hsz hx hb hr hlocks hml hown hB hK hE hC hl => ?_)
  subst hsz
  have hown : s.vm.findClass "MazeBoard$Game" = some m.cls := hown
  have hl : lv_has ls 3 [(0, .ref (ad 1))] := hl
  have J60 : ∀ (M2 : Mem) (H : Heap) (locs : List Loc) (ls : Array Slot) (hT : sp_X1_meetHunters M = sp_X1_meetHunters_B60 M2) (hC : Cx D cy ad R0 L (fA ad L s.heap.size) s M2 H locs) (hl : lv_has ls 3 []), W p l e ({ frames := 3, cells := 0, slots := 0, locals := 64 }) s m ([.ref (ad 1)] : List Value).toArray below meth c H locs 0 0 (MQ below (va_Qv (fun N => N = sp_X1_meetHunters M) (OW D cy ad L s.heap.size) (fA ad L s.heap.size)) ([.ref (ad 1)] : List Value).toArray s 0 0 (fA ad L s.heap.size)) (F0 m 60 ls []) := by
    intro M2 H locs ls  hT hC hl
    have hT : sp_X1_meetHunters M = M2 := hT
    exact q_retv hx hb hr hlocks hC hT.symm dX1_meetHunters_60
  have J2 : ∀ (n : Nat) (x1 : Int32) (M2 : Mem) (H : Heap) (locs : List Loc) (ls : Array Slot) (hT : sp_X1_meetHunters M = sp_X1_meetHunters_B2 n x1 M2) (hV : vc_X1_meetHunters_B2 n x1 M2) (hC : Cx D cy ad R0 L (fA ad L s.heap.size) s M2 H locs) (hl : lv_has ls 3 [(0, .ref (ad 1)), (1, .int x1)]), W p l e ({ frames := 3, cells := 0, slots := 0, locals := 64 }) s m ([.ref (ad 1)] : List Value).toArray below meth c H locs 0 0 (MQ below (va_Qv (fun N => N = sp_X1_meetHunters M) (OW D cy ad L s.heap.size) (fA ad L s.heap.size)) ([.ref (ad 1)] : List Value).toArray s 0 0 (fA ad L s.heap.size)) (F0 m 2 ls []) := by
    intro n
    induction n with
    | zero => intro x1 M2 H locs ls  hT hV; exact hV.elim
    | succ n ih =>
      have J54 : ∀ (x1 : Int32) (M5 : Mem) (H : Heap) (locs : List Loc) (ls : Array Slot) (hT : sp_X1_meetHunters M = sp_X1_meetHunters_B54 (sp_X1_meetHunters_B2 n) x1 M5) (hV : vc_X1_meetHunters_B54 (vc_X1_meetHunters_B2 n) x1 M5) (hC : Cx D cy ad R0 L (fA ad L s.heap.size) s M5 H locs) (hl : lv_has ls 3 [(0, .ref (ad 1)), (1, .int x1)]), W p l e ({ frames := 3, cells := 0, slots := 0, locals := 64 }) s m ([.ref (ad 1)] : List Value).toArray below meth c H locs 0 0 (MQ below (va_Qv (fun N => N = sp_X1_meetHunters M) (OW D cy ad L s.heap.size) (fA ad L s.heap.size)) ([.ref (ad 1)] : List Value).toArray s 0 0 (fA ad L s.heap.size)) (F0 m 54 ls []) := by
        intro x1 M5 H locs ls  hT hV hC hl
        have hT : sp_X1_meetHunters M = sp_X1_meetHunters_n1 (sp_X1_meetHunters_B2 n) M5 (x1 + 1) := hT
        have hV : vc_X1_meetHunters_n1 (vc_X1_meetHunters_B2 n) M5 (x1 + 1) := hV
        obtain ⟨x6, ex6⟩ : ∃ z : Int32, z = x1 + 1 := ⟨_, rfl⟩
        have hT : sp_X1_meetHunters M = sp_X1_meetHunters_n1 (sp_X1_meetHunters_B2 n) M5 x6 := by rw [ex6]; exact hT
        have hV : vc_X1_meetHunters_n1 (vc_X1_meetHunters_B2 n) M5 x6 := by rw [ex6]; exact hV
        refine lv_iinc (v := x6) (lv' := [(1, .int x6), (0, .ref (ad 1))]) hx hb dX1_meetHunters_54 hl (k := 1) rfl (by rw [ex6]; rfl) (by decide) rfl (fun ls hl => ?_)
        refine lv_goto (tgt := 2) hx hb dX1_meetHunters_57 (by decide) ?_
        exact ih x6 M5 _ _ _  hT hV hC (lv_sub hl [1, 0] rfl)
      intro x1 M2 H locs ls  hT hV hC hl
      have hT : sp_X1_meetHunters M = if 5 ≤ x1 then (sp_X1_meetHunters_B60 M2) else (if (gI M2 1 15) = 0 then (if (sp_X0_meets M2 (5 + x1.toNatClampNeg) 5) = 0 then (sp_X1_meetHunters_B54 (sp_X1_meetHunters_B2 n) x1 M2) else (if (gI M2 (5 + x1.toNatClampNeg) 4) = 0 then (sp_X1_meetHunters_n2 (sp_X1_meetHunters_B2 n) x1 (sp_X1_loseLife M2)) else (sp_X1_meetHunters_n3 (sp_X1_meetHunters_B2 n) x1 (sp_X1_eatHunter M2 (5 + x1.toNatClampNeg))))) else (sp_X1_meetHunters_B60 M2)) := hT
      have hV : if 5 ≤ x1 then True else (if (gI M2 1 15) = 0 then (vp_in x1 5 ∧ ((vc_X0_meets M2 (5 + x1.toNatClampNeg) 5) ∧ (if (sp_X0_meets M2 (5 + x1.toNatClampNeg) 5) = 0 then vc_X1_meetHunters_B54 (vc_X1_meetHunters_B2 n) x1 M2 else (if (gI M2 (5 + x1.toNatClampNeg) 4) = 0 then (vc_X1_loseLife M2 ∧ (vc_X1_meetHunters_n2 (vc_X1_meetHunters_B2 n) x1 (sp_X1_loseLife M2))) else ((vc_X1_eatHunter M2 (5 + x1.toNatClampNeg)) ∧ (vc_X1_meetHunters_n3 (vc_X1_meetHunters_B2 n) x1 (sp_X1_eatHunter M2 (5 + x1.toNatClampNeg)))))))) else True) := hV
      refine lv_iload_n hx hb dX1_meetHunters_2 rfl (lv_at hl 1 rfl) ?_
      refine lv_iconst (v := 5) hx hb dX1_meetHunters_3 (by decide) ?_
      refine lv_icmp_ge (tgt := 60) hx hb dX1_meetHunters_4 (by decide) (fun c4 => ?_) (fun c4 => ?_)
      · have hT : sp_X1_meetHunters M = sp_X1_meetHunters_B60 M2 := hT.trans (if_pos c4)
        exact J60 M2 _ _ _  hT hC (lv_sub hl [] rfl)
      · have hT : sp_X1_meetHunters M = if (gI M2 1 15) = 0 then (if (sp_X0_meets M2 (5 + x1.toNatClampNeg) 5) = 0 then (sp_X1_meetHunters_B54 (sp_X1_meetHunters_B2 n) x1 M2) else (if (gI M2 (5 + x1.toNatClampNeg) 4) = 0 then (sp_X1_meetHunters_n2 (sp_X1_meetHunters_B2 n) x1 (sp_X1_loseLife M2)) else (sp_X1_meetHunters_n3 (sp_X1_meetHunters_B2 n) x1 (sp_X1_eatHunter M2 (5 + x1.toNatClampNeg))))) else (sp_X1_meetHunters_B60 M2) := hT.trans (if_neg c4)
        have hV : if (gI M2 1 15) = 0 then (vp_in x1 5 ∧ ((vc_X0_meets M2 (5 + x1.toNatClampNeg) 5) ∧ (if (sp_X0_meets M2 (5 + x1.toNatClampNeg) 5) = 0 then vc_X1_meetHunters_B54 (vc_X1_meetHunters_B2 n) x1 M2 else (if (gI M2 (5 + x1.toNatClampNeg) 4) = 0 then (vc_X1_loseLife M2 ∧ (vc_X1_meetHunters_n2 (vc_X1_meetHunters_B2 n) x1 (sp_X1_loseLife M2))) else ((vc_X1_eatHunter M2 (5 + x1.toNatClampNeg)) ∧ (vc_X1_meetHunters_n3 (vc_X1_meetHunters_B2 n) x1 (sp_X1_eatHunter M2 (5 + x1.toNatClampNeg)))))))) else True := iteF hV c4
        refine lv_aload_n hx hb dX1_meetHunters_7 rfl (lv_at hl 0 rfl) ?_
        refine q_geti (T := TX1) hx hb hB uw_X1 hown hK hC rfl (hL 1 (by decide) (by decide)) rfl 15 (by decide) rfl (hB _ mw_1_156) dX1_meetHunters_8 ?_
        refine lv_if_ne (tgt := 60) hx hb dX1_meetHunters_11 (by decide) (fun c11 => ?_) (fun c11 => ?_)
        · have hT : sp_X1_meetHunters M = sp_X1_meetHunters_B60 M2 := hT.trans (if_neg c11)
          exact J60 M2 _ _ _  hT hC (lv_sub hl [] rfl)
        · have hT : sp_X1_meetHunters M = if (sp_X0_meets M2 (5 + x1.toNatClampNeg) 5) = 0 then (sp_X1_meetHunters_B54 (sp_X1_meetHunters_B2 n) x1 M2) else (if (gI M2 (5 + x1.toNatClampNeg) 4) = 0 then (sp_X1_meetHunters_n2 (sp_X1_meetHunters_B2 n) x1 (sp_X1_loseLife M2)) else (sp_X1_meetHunters_n3 (sp_X1_meetHunters_B2 n) x1 (sp_X1_eatHunter M2 (5 + x1.toNatClampNeg)))) := hT.trans (if_pos c11)
          have hV : vp_in x1 5 ∧ ((vc_X0_meets M2 (5 + x1.toNatClampNeg) 5) ∧ (if (sp_X0_meets M2 (5 + x1.toNatClampNeg) 5) = 0 then vc_X1_meetHunters_B54 (vc_X1_meetHunters_B2 n) x1 M2 else (if (gI M2 (5 + x1.toNatClampNeg) 4) = 0 then (vc_X1_loseLife M2 ∧ (vc_X1_meetHunters_n2 (vc_X1_meetHunters_B2 n) x1 (sp_X1_loseLife M2))) else ((vc_X1_eatHunter M2 (5 + x1.toNatClampNeg)) ∧ (vc_X1_meetHunters_n3 (vc_X1_meetHunters_B2 n) x1 (sp_X1_eatHunter M2 (5 + x1.toNatClampNeg))))))) := iteT hV c11
          refine lv_aload_n hx hb dX1_meetHunters_14 rfl (lv_at hl 0 rfl) ?_
          refine q_getr (T := TX1) hx hb hB uw_X1 hown hK hC rfl (hL 1 (by decide) (by decide)) rfl 1 (by decide) rfl rfl (hB _ mw_1_129) dX1_meetHunters_15 ?_
          refine lv_iload_n hx hb dX1_meetHunters_18 rfl (lv_at hl 1 rfl) ?_
          obtain ⟨w19, hV⟩ : vp_in x1 5 ∧ ((vc_X0_meets M2 (5 + x1.toNatClampNeg) 5) ∧ (if (sp_X0_meets M2 (5 + x1.toNatClampNeg) 5) = 0 then vc_X1_meetHunters_B54 (vc_X1_meetHunters_B2 n) x1 M2 else (if (gI M2 (5 + x1.toNatClampNeg) 4) = 0 then (vc_X1_loseLife M2 ∧ (vc_X1_meetHunters_n2 (vc_X1_meetHunters_B2 n) x1 (sp_X1_loseLife M2))) else ((vc_X1_eatHunter M2 (5 + x1.toNatClampNeg)) ∧ (vc_X1_meetHunters_n3 (vc_X1_meetHunters_B2 n) x1 (sp_X1_eatHunter M2 (5 + x1.toNatClampNeg))))))) := hV
          refine q_aald hx hb hK hC rfl (hL 4 (by decide) (by decide)) rfl w19 rfl dX1_meetHunters_19 ?_
          refine lv_astore_n (lv' := [(2, .ref (ad (5 + x1.toNatClampNeg))), (0, .ref (ad 1)), (1, .int x1)]) hx hb dX1_meetHunters_20 rfl hl (by decide) rfl (fun ls hl => ?_)
          refine lv_aload_n hx hb dX1_meetHunters_21 rfl (lv_at hl 0 rfl) ?_
          refine lv_aload_n hx hb dX1_meetHunters_22 rfl (lv_at hl 1 rfl) ?_
          refine q_getr (T := TX1) hx hb hB uw_X1 hown hK hC rfl (hL 1 (by decide) (by decide)) rfl 2 (by decide) rfl rfl (hB _ mw_1_131) dX1_meetHunters_23 ?_
          obtain ⟨v26, hV⟩ : (vc_X0_meets M2 (5 + x1.toNatClampNeg) 5) ∧ (if (sp_X0_meets M2 (5 + x1.toNatClampNeg) 5) = 0 then vc_X1_meetHunters_B54 (vc_X1_meetHunters_B2 n) x1 M2 else (if (gI M2 (5 + x1.toNatClampNeg) 4) = 0 then (vc_X1_loseLife M2 ∧ (vc_X1_meetHunters_n2 (vc_X1_meetHunters_B2 n) x1 (sp_X1_loseLife M2))) else ((vc_X1_eatHunter M2 (5 + x1.toNatClampNeg)) ∧ (vc_X1_meetHunters_n3 (vc_X1_meetHunters_B2 n) x1 (sp_X1_eatHunter M2 (5 + x1.toNatClampNeg)))))) := hV
          refine q_Ci (q_V (own := "MazeBoard$Game") (y := yX0_meets) (As := [.ref (ad 5)]) (rest := []) ⟨hx, hb, hml, hown, hB⟩ hK hE hC (c_X0_meets l D cy ad L H.size (hL.sub (by decide) (by decide)) M2 (5 + x1.toNatClampNeg) (isA.of w19) 5 (⟨by decide, by decide⟩) v26) (isA.sh (isA.of w19)) (hL _ (Nat.le_trans (by decide) ((isA.of w19)).1) (Nat.le_trans ((isA.of w19)).2 (by decide))) rfl mw_2_156 mw_2_157 mw_2_158 mw_1_4 mw_2_159 rfl yd_X0_meets ⟨rfl, rfl⟩ ⟨Nat.le_of_ble_eq_true rfl, Nat.le_of_ble_eq_true rfl⟩ rfl hl.1 rfl (Nat.le_of_ble_eq_true rfl) dX1_meetHunters_26 ⟨Nat.le_refl _, Nat.le_refl _⟩) hC (fun r N_ H locs hp hC => ?_)
          obtain ⟨hr_, hM_⟩ := hp
          subst hr_
          rw [hM_] at hC
          refine lv_if_ne (tgt := 35) hx hb dX1_meetHunters_29 (by decide) (fun c29 => ?_) (fun c29 => ?_)
          · have hT : sp_X1_meetHunters M = if (gI M2 (5 + x1.toNatClampNeg) 4) = 0 then (sp_X1_meetHunters_n2 (sp_X1_meetHunters_B2 n) x1 (sp_X1_loseLife M2)) else (sp_X1_meetHunters_n3 (sp_X1_meetHunters_B2 n) x1 (sp_X1_eatHunter M2 (5 + x1.toNatClampNeg))) := hT.trans (if_neg c29)
            have hV : if (gI M2 (5 + x1.toNatClampNeg) 4) = 0 then (vc_X1_loseLife M2 ∧ (vc_X1_meetHunters_n2 (vc_X1_meetHunters_B2 n) x1 (sp_X1_loseLife M2))) else ((vc_X1_eatHunter M2 (5 + x1.toNatClampNeg)) ∧ (vc_X1_meetHunters_n3 (vc_X1_meetHunters_B2 n) x1 (sp_X1_eatHunter M2 (5 + x1.toNatClampNeg)))) := iteF hV c29
            refine lv_aload_n hx hb dX1_meetHunters_35 rfl (lv_at hl 0 rfl) ?_
            refine q_geti (T := TX0) hx hb hB uw_X0 hown hK hC (isA.sh (isA.of w19)) (hL _ (Nat.le_trans (by decide) ((isA.of w19)).1) (Nat.le_trans ((isA.of w19)).2 (by decide))) rfl 4 (by decide) rfl (hB _ mw_1_67) dX1_meetHunters_36 ?_
            refine lv_if_eq (tgt := 50) hx hb dX1_meetHunters_39 (by decide) (fun c39 => ?_) (fun c39 => ?_)
            · have hT : sp_X1_meetHunters M = sp_X1_meetHunters_n2 (sp_X1_meetHunters_B2 n) x1 (sp_X1_loseLife M2) := hT.trans (if_pos c39)
              have hV : vc_X1_loseLife M2 ∧ (vc_X1_meetHunters_n2 (vc_X1_meetHunters_B2 n) x1 (sp_X1_loseLife M2)) := iteT hV c39
              refine lv_aload_n hx hb dX1_meetHunters_50 rfl (lv_at hl 1 rfl) ?_
              obtain ⟨v51, hV⟩ : vc_X1_loseLife M2 ∧ (vc_X1_meetHunters_n2 (vc_X1_meetHunters_B2 n) x1 (sp_X1_loseLife M2)) := hV
              refine q_Cv (q_V (own := "MazeBoard$Game") (y := yX1_loseLife) (As := []) (rest := []) ⟨hx, hb, hml, hown, hB⟩ hK hE hC (c_X1_loseLife l D cy ad L H.size (hL.sub (by decide) (by decide)) M2  v51) rfl (hL 1 (by decide) (by decide)) rfl mw_2_165 mw_2_167 mw_0_20 mw_1_2 mw_2_168 rfl yd_X1_loseLife ⟨rfl, rfl⟩ ⟨Nat.le_of_ble_eq_true rfl, Nat.le_of_ble_eq_true rfl⟩ rfl hl.1 rfl (Nat.le_of_ble_eq_true rfl) dX1_meetHunters_51 ⟨Nat.le_refl _, Nat.le_refl _⟩) hC (fun M3 H locs eM3 hC => ?_)
              have hT : sp_X1_meetHunters M = sp_X1_meetHunters_n2 (sp_X1_meetHunters_B2 n) x1 M3 := by rw [eM3]; exact hT
              have hV : vc_X1_meetHunters_n2 (vc_X1_meetHunters_B2 n) x1 M3 := by rw [eM3]; exact hV
              exact J54 x1 M3 _ _ _  hT hV hC (lv_sub hl [1, 2] rfl)
            · have hT : sp_X1_meetHunters M = sp_X1_meetHunters_n3 (sp_X1_meetHunters_B2 n) x1 (sp_X1_eatHunter M2 (5 + x1.toNatClampNeg)) := hT.trans (if_neg c39)
              have hV : (vc_X1_eatHunter M2 (5 + x1.toNatClampNeg)) ∧ (vc_X1_meetHunters_n3 (vc_X1_meetHunters_B2 n) x1 (sp_X1_eatHunter M2 (5 + x1.toNatClampNeg))) := iteF hV c39
              refine lv_aload_n hx hb dX1_meetHunters_42 rfl (lv_at hl 1 rfl) ?_
              refine lv_aload_n hx hb dX1_meetHunters_43 rfl (lv_at hl 0 rfl) ?_
              obtain ⟨v44, hV⟩ : (vc_X1_eatHunter M2 (5 + x1.toNatClampNeg)) ∧ (vc_X1_meetHunters_n3 (vc_X1_meetHunters_B2 n) x1 (sp_X1_eatHunter M2 (5 + x1.toNatClampNeg))) := hV
              refine q_Cv (q_V (own := "MazeBoard$Game") (y := yX1_eatHunter) (As := [.ref (ad (5 + x1.toNatClampNeg))]) (rest := []) ⟨hx, hb, hml, hown, hB⟩ hK hE hC (c_X1_eatHunter l D cy ad L H.size (hL.sub (by decide) (by decide)) M2 (5 + x1.toNatClampNeg) (isA.of w19) v44) rfl (hL 1 (by decide) (by decide)) rfl mw_2_161 mw_2_163 mw_0_19 mw_1_2 mw_2_164 rfl yd_X1_eatHunter ⟨rfl, rfl⟩ ⟨Nat.le_of_ble_eq_true rfl, Nat.le_of_ble_eq_true rfl⟩ rfl hl.1 rfl (Nat.le_of_ble_eq_true rfl) dX1_meetHunters_44 ⟨Nat.le_refl _, Nat.le_refl _⟩) hC (fun M4 H locs eM4 hC => ?_)
              have hT : sp_X1_meetHunters M = sp_X1_meetHunters_n3 (sp_X1_meetHunters_B2 n) x1 M4 := by rw [eM4]; exact hT
              have hV : vc_X1_meetHunters_n3 (vc_X1_meetHunters_B2 n) x1 M4 := by rw [eM4]; exact hV
              refine lv_goto (tgt := 54) hx hb dX1_meetHunters_47 (by decide) ?_
              exact J54 x1 M4 _ _ _  hT hV hC (lv_sub hl [1, 2] rfl)
          · have hT : sp_X1_meetHunters M = sp_X1_meetHunters_B54 (sp_X1_meetHunters_B2 n) x1 M2 := hT.trans (if_pos c29)
            have hV : vc_X1_meetHunters_B54 (vc_X1_meetHunters_B2 n) x1 M2 := iteT hV c29
            refine lv_goto (tgt := 54) hx hb dX1_meetHunters_32 (by decide) ?_
            exact J54 x1 M2 _ _ _  hT hV hC (lv_sub hl [1, 2] rfl)
  have hT : sp_X1_meetHunters M = sp_X1_meetHunters_B2 6 1 M := rfl
  have hV : vc_X1_meetHunters_B2 6 1 M := hV
  refine lv_iconst (v := 1) hx hb dX1_meetHunters_0 (by decide) ?_
  refine lv_istore_n (lv' := [(1, .int 1), (0, .ref (ad 1))]) hx hb dX1_meetHunters_1 rfl hl (by decide) rfl (fun ls hl => ?_)
  exact J2 6 1 M _ _ _  hT hV hC (lv_sub hl [1, 0] rfl)
set_option maxHeartbeats 4000000 in
set_option maxRecDepth 100000 in
theorem c_X1_drawNumber (l : Launch) (D : va_G) (cy ad : Nat → Nat) (L : List Nat) (sz : Nat) (hL : lr 1 9 L) (M : Mem)  : Met l yX1_drawNumber (Cond.code yX1_drawNumber cX1_drawNumber 1 (some .int) :: BG) ({ frames := 0, cells := 0, slots := 0, locals := 0 }) (va_Pc [.ref (ad 1)] (PW D cy ad L M sz)) (va_Qi (fun r N => r = (sp_X1_drawNumber M).1 ∧ N = (sp_X1_drawNumber M).2) (OW D cy ad L sz) (fA ad L sz)) 0 0 (fA ad L sz) := by
  refine q_start (by decide) (Nat.le_of_ble_eq_true rfl) (fun p e s m below meth c H locs ls hsz hx hb hr hlocks hml hown hB hK hE hC hl => ?_)
  subst hsz
  have hown : s.vm.findClass "MazeBoard$Game" = some m.cls := hown
  have hl : lv_has ls 1 [(0, .ref (ad 1))] := hl
  have hT : sp_X1_drawNumber M = sp_X1_drawNumber_n1 (wI M 1 12 (((gI M 1 12) * 1103515245) + 12345)) := rfl
  refine lv_aload_n hx hb dX1_drawNumber_0 rfl (lv_at hl 0 rfl) ?_
  refine lv_aload_n hx hb dX1_drawNumber_1 rfl (lv_at hl 0 rfl) ?_
  refine q_geti (T := TX1) hx hb hB uw_X1 hown hK hC rfl (hL 1 (by decide) (by decide)) rfl 12 (by decide) rfl (hB _ mw_1_150) dX1_drawNumber_2 ?_
  refine lv_ldc (v := 1103515245) hx hb hown (hB _ mw_2_105) dX1_drawNumber_5 ?_
  refine lv_imul hx hb dX1_drawNumber_7 ?_
  refine lv_sipush (v := 12345) hx hb dX1_drawNumber_8 (by decide) ?_
  refine lv_iadd hx hb dX1_drawNumber_11 ?_
  refine q_puti (T := TX1) hx hb hB uw_X1 tyX1 tyX1_ok nmX1 hown hK hC rfl (hL 1 (by decide) (by decide)) rfl 12 (by decide) rfl (hB _ mw_1_150) rfl rfl rfl rfl dX1_drawNumber_12 (fun H locs hC => ?_)
  obtain ⟨M1, eM1⟩ : ∃ z : Mem, z = wI M 1 12 (((gI M 1 12) * 1103515245) + 12345) := ⟨_, rfl⟩
  rw [← eM1] at hC
  have hT : sp_X1_drawNumber M = sp_X1_drawNumber_n1 M1 := by rw [eM1]; exact hT
  refine lv_aload_n hx hb dX1_drawNumber_15 rfl (lv_at hl 0 rfl) ?_
  refine q_geti (T := TX1) hx hb hB uw_X1 hown hK hC rfl (hL 1 (by decide) (by decide)) rfl 12 (by decide) rfl (hB _ mw_1_150) dX1_drawNumber_16 ?_
  refine lv_bipush (v := 16) hx hb dX1_drawNumber_19 (by decide) ?_
  refine lv_ishr hx hb dX1_drawNumber_21 ?_
  refine lv_iconst (v := 3) hx hb dX1_drawNumber_22 (by decide) ?_
  refine lv_iand hx hb dX1_drawNumber_23 ?_
  exact q_reti hx hb hr hlocks hC ⟨(congrArg Prod.fst hT).symm, (congrArg Prod.snd hT).symm⟩ dX1_drawNumber_24
set_option maxHeartbeats 4000000 in
set_option maxRecDepth 100000 in
theorem c_X1_firstOpenFrom (l : Launch) (D : va_G) (cy ad : Nat → Nat) (L : List Nat) (sz : Nat) (hL : lr 1 9 L) (M : Mem) (a1 : Int32) (b2 : Nat) (hb2 : isA b2) (hV : vc_X1_firstOpenFrom M a1 b2) : Met l yX1_firstOpenFrom (Cond.code yX1_firstOpenFrom cX1_firstOpenFrom 6 (some .int) :: BG) ({ frames := 2, cells := 0, slots := 0, locals := 45 }) (va_Pc [.ref (ad 1), .int a1, .ref (ad b2)] (PW D cy ad L M sz)) (va_Qi (fun r N => r = sp_X1_firstOpenFrom M a1 b2 ∧ N = M) (OW D cy ad L sz) (fA ad L sz)) 0 0 (fA ad L sz) := by
  refine q_start (by decide) (Nat.le_of_ble_eq_true rfl) (fun p e s m below meth c H locs ls hsz hx hb hr hlocks hml hown hB hK hE hC hl => ?_)
  subst hsz
  have hown : s.vm.findClass "MazeBoard$Game" = some m.cls := hown
  have hl : lv_has ls 6 [(0, .ref (ad 1)), (1, .int a1), (2, .ref (ad b2))] := hl
  have J11 : ∀ (n : Nat) (x1 : Int32) (x2 : Int32) (H : Heap) (locs : List Loc) (ls : Array Slot) (hT : sp_X1_firstOpenFrom M a1 b2 = sp_X1_firstOpenFrom_B11 n M a1 b2 x1 x2) (hV : vc_X1_firstOpenFrom_B11 n M a1 b2 x1 x2) (hC : Cx D cy ad R0 L (fA ad L s.heap.size) s M H locs) (hl : lv_has ls 6 [(0, .ref (ad 1)), (1, .int a1), (2, .ref (ad b2)), (3, .int x1), (4, .int x2)]), W p l e ({ frames := 2, cells := 0, slots := 0, locals := 45 }) s m ([.ref (ad 1), .int a1, .ref (ad b2)] : List Value).toArray below meth c H locs 0 0 (MQ below (va_Qi (fun r N => r = sp_X1_firstOpenFrom M a1 b2 ∧ N = M) (OW D cy ad L s.heap.size) (fA ad L s.heap.size)) ([.ref (ad 1), .int a1, .ref (ad b2)] : List Value).toArray s 0 0 (fA ad L s.heap.size)) (F0 m 11 ls []) := by
    intro n
    induction n with
    | zero => intro x1 x2 H locs ls  hT hV; exact hV.elim
    | succ n ih =>
      have J47 : ∀ (x1 : Int32) (x2 : Int32) (H : Heap) (locs : List Loc) (ls : Array Slot) (hT : sp_X1_firstOpenFrom M a1 b2 = sp_X1_firstOpenFrom_B47 (sp_X1_firstOpenFrom_B11 n) M a1 b2 x1 x2) (hV : vc_X1_firstOpenFrom_B47 (vc_X1_firstOpenFrom_B11 n) M a1 b2 x1 x2) (hC : Cx D cy ad R0 L (fA ad L s.heap.size) s M H locs) (hl : lv_has ls 6 [(0, .ref (ad 1)), (1, .int a1), (2, .ref (ad b2)), (3, .int x1), (4, .int x2)]), W p l e ({ frames := 2, cells := 0, slots := 0, locals := 45 }) s m ([.ref (ad 1), .int a1, .ref (ad b2)] : List Value).toArray below meth c H locs 0 0 (MQ below (va_Qi (fun r N => r = sp_X1_firstOpenFrom M a1 b2 ∧ N = M) (OW D cy ad L s.heap.size) (fA ad L s.heap.size)) ([.ref (ad 1), .int a1, .ref (ad b2)] : List Value).toArray s 0 0 (fA ad L s.heap.size)) (F0 m 47 ls []) := by
        intro x1 x2 H locs ls  hT hV hC hl
        have hT : sp_X1_firstOpenFrom M a1 b2 = sp_X1_firstOpenFrom_n1 (sp_X1_firstOpenFrom_B11 n) M a1 b2 x1 (x2 + 1) := hT
        have hV : vc_X1_firstOpenFrom_n1 (vc_X1_firstOpenFrom_B11 n) M a1 b2 x1 (x2 + 1) := hV
        obtain ⟨x4, ex4⟩ : ∃ z : Int32, z = x2 + 1 := ⟨_, rfl⟩
        have hT : sp_X1_firstOpenFrom M a1 b2 = sp_X1_firstOpenFrom_n1 (sp_X1_firstOpenFrom_B11 n) M a1 b2 x1 x4 := by rw [ex4]; exact hT
        have hV : vc_X1_firstOpenFrom_n1 (vc_X1_firstOpenFrom_B11 n) M a1 b2 x1 x4 := by rw [ex4]; exact hV
        refine lv_iinc (v := x4) (lv' := [(4, .int x4), (0, .ref (ad 1)), (1, .int a1), (2, .ref (ad b2)), (3, .int x1)]) hx hb dX1_firstOpenFrom_47 hl (k := 4) rfl (by rw [ex4]; rfl) (by decide) rfl (fun ls hl => ?_)
        refine lv_goto (tgt := 11) hx hb dX1_firstOpenFrom_50 (by decide) ?_
        exact ih x1 x4 _ _ _  hT hV hC (lv_sub hl [1, 2, 3, 4, 0] rfl)
      intro x1 x2 H locs ls  hT hV hC hl
      have hT : sp_X1_firstOpenFrom M a1 b2 = if 4 ≤ x2 then x1 else (sp_X1_firstOpenFrom_n2 (sp_X1_firstOpenFrom_B11 n) M a1 b2 x1 x2 ((a1 + x2) - (a1 + x2) / 4 * 4)) := hT
      have hV : if 4 ≤ x2 then True else (vc_X1_firstOpenFrom_n2 (vc_X1_firstOpenFrom_B11 n) M a1 b2 x1 x2 ((a1 + x2) - (a1 + x2) / 4 * 4)) := hV
      refine lv_iload hx hb dX1_firstOpenFrom_11 (lv_at hl 4 rfl) ?_
      refine lv_iconst (v := 4) hx hb dX1_firstOpenFrom_13 (by decide) ?_
      refine lv_icmp_ge (tgt := 53) hx hb dX1_firstOpenFrom_14 (by decide) (fun c14 => ?_) (fun c14 => ?_)
      · have hT : sp_X1_firstOpenFrom M a1 b2 = x1 := hT.trans (if_pos c14)
        refine lv_iload_n hx hb dX1_firstOpenFrom_53 rfl (lv_at hl 3 rfl) ?_
        exact q_reti hx hb hr hlocks hC ⟨hT.symm, rfl⟩ dX1_firstOpenFrom_54
      · have hT : sp_X1_firstOpenFrom M a1 b2 = sp_X1_firstOpenFrom_n2 (sp_X1_firstOpenFrom_B11 n) M a1 b2 x1 x2 ((a1 + x2) - (a1 + x2) / 4 * 4) := hT.trans (if_neg c14)
        have hV : vc_X1_firstOpenFrom_n2 (vc_X1_firstOpenFrom_B11 n) M a1 b2 x1 x2 ((a1 + x2) - (a1 + x2) / 4 * 4) := iteF hV c14
        refine lv_iload_n hx hb dX1_firstOpenFrom_17 rfl (lv_at hl 1 rfl) ?_
        refine lv_iload hx hb dX1_firstOpenFrom_18 (lv_at hl 4 rfl) ?_
        refine lv_iadd hx hb dX1_firstOpenFrom_20 ?_
        refine lv_iconst (v := 4) hx hb dX1_firstOpenFrom_21 (by decide) ?_
        refine lv_irem hx hb dX1_firstOpenFrom_22 (by decide) ?_
        refine lv_topi (fun x3 ex3 => ?_)
        have hT : sp_X1_firstOpenFrom M a1 b2 = sp_X1_firstOpenFrom_n2 (sp_X1_firstOpenFrom_B11 n) M a1 b2 x1 x2 x3 := by rw [ex3]; exact hT
        have hV : vc_X1_firstOpenFrom_n2 (vc_X1_firstOpenFrom_B11 n) M a1 b2 x1 x2 x3 := by rw [ex3]; exact hV
        refine lv_istore (lv' := [(5, .int x3), (0, .ref (ad 1)), (1, .int a1), (2, .ref (ad b2)), (3, .int x1), (4, .int x2)]) hx hb dX1_firstOpenFrom_23 hl (by decide) rfl (fun ls hl => ?_)
        refine lv_iload hx hb dX1_firstOpenFrom_25 (lv_at hl 0 rfl) ?_
        refine lv_iload_n hx hb dX1_firstOpenFrom_27 rfl (lv_at hl 4 rfl) ?_
        refine lv_icmp_eq (tgt := 47) hx hb dX1_firstOpenFrom_28 (by decide) (fun c28 => ?_) (fun c28 => ?_)
        · have hT : sp_X1_firstOpenFrom M a1 b2 = sp_X1_firstOpenFrom_B47 (sp_X1_firstOpenFrom_B11 n) M a1 b2 x1 x2 := hT.trans (if_pos c28)
          have hV : vc_X1_firstOpenFrom_B47 (vc_X1_firstOpenFrom_B11 n) M a1 b2 x1 x2 := iteT hV c28
          exact J47 x1 x2 _ _ _  hT hV hC (lv_sub hl [1, 2, 3, 4, 5] rfl)
        · have hT : sp_X1_firstOpenFrom M a1 b2 = if (sp_X2_isOpen M b2 x3) = 0 then (sp_X1_firstOpenFrom_B47 (sp_X1_firstOpenFrom_B11 n) M a1 b2 x1 x2) else x3 := hT.trans (if_neg c28)
          have hV : vc_X2_isOpen M b2 x3 ∧ (if (sp_X2_isOpen M b2 x3) = 0 then vc_X1_firstOpenFrom_B47 (vc_X1_firstOpenFrom_B11 n) M a1 b2 x1 x2 else True) := iteF hV c28
          refine lv_aload_n hx hb dX1_firstOpenFrom_31 rfl (lv_at hl 1 rfl) ?_
          refine q_getr (T := TX1) hx hb hB uw_X1 hown hK hC rfl (hL 1 (by decide) (by decide)) rfl 0 (by decide) rfl rfl (hB _ mw_1_127) dX1_firstOpenFrom_32 ?_
          refine lv_aload_n hx hb dX1_firstOpenFrom_35 rfl (lv_at hl 3 rfl) ?_
          refine lv_iload hx hb dX1_firstOpenFrom_36 (lv_at hl 0 rfl) ?_
          obtain ⟨v38, hV⟩ : vc_X2_isOpen M b2 x3 ∧ (if (sp_X2_isOpen M b2 x3) = 0 then vc_X1_firstOpenFrom_B47 (vc_X1_firstOpenFrom_B11 n) M a1 b2 x1 x2 else True) := hV
          refine q_Ci (q_V (own := "MazeBoard$Game") (y := yX2_isOpen) (As := [.ref (ad b2), .int x3]) (rest := []) ⟨hx, hb, hml, hown, hB⟩ hK hE hC (c_X2_isOpen l D cy ad L H.size (hL.sub (by decide) (by decide)) M b2 hb2 x3 v38) rfl (hL 2 (by decide) (by decide)) rfl mw_2_42 mw_2_43 mw_2_44 mw_1_3 mw_2_45 rfl yd_X2_isOpen ⟨rfl, rfl⟩ ⟨Nat.le_of_ble_eq_true rfl, Nat.le_of_ble_eq_true rfl⟩ rfl hl.1 rfl (Nat.le_of_ble_eq_true rfl) dX1_firstOpenFrom_38 ⟨Nat.le_refl _, Nat.le_refl _⟩) hC (fun r N_ H locs hp hC => ?_)
          obtain ⟨hr_, hM_⟩ := hp
          subst hr_
          rw [hM_] at hC
          refine lv_if_eq (tgt := 47) hx hb dX1_firstOpenFrom_41 (by decide) (fun c41 => ?_) (fun c41 => ?_)
          · have hT : sp_X1_firstOpenFrom M a1 b2 = sp_X1_firstOpenFrom_B47 (sp_X1_firstOpenFrom_B11 n) M a1 b2 x1 x2 := hT.trans (if_pos c41)
            have hV : vc_X1_firstOpenFrom_B47 (vc_X1_firstOpenFrom_B11 n) M a1 b2 x1 x2 := iteT hV c41
            exact J47 x1 x2 _ _ _  hT hV hC (lv_sub hl [1, 2, 3, 4, 5] rfl)
          · have hT : sp_X1_firstOpenFrom M a1 b2 = x3 := hT.trans (if_neg c41)
            refine lv_iload hx hb dX1_firstOpenFrom_44 (lv_at hl 0 rfl) ?_
            exact q_reti hx hb hr hlocks hC ⟨hT.symm, rfl⟩ dX1_firstOpenFrom_46
  have hT : sp_X1_firstOpenFrom M a1 b2 = sp_X1_firstOpenFrom_n3 M a1 b2 (sp_X6_opposite (gI M b2 2)) := rfl
  have hV : vc_X1_firstOpenFrom_n3 M a1 b2 (sp_X6_opposite (gI M b2 2)) := hV
  refine lv_aload_n hx hb dX1_firstOpenFrom_0 rfl (lv_at hl 2 rfl) ?_
  refine q_geti (T := TX0) hx hb hB uw_X0 hown hK hC (isA.sh hb2) (hL _ (Nat.le_trans (by decide) (hb2).1) (Nat.le_trans (hb2).2 (by decide))) rfl 2 (by decide) rfl (hB _ mw_1_60) dX1_firstOpenFrom_1 ?_
  refine q_Ci (q_N (own := "MazeBoard$Game") (y := yX6_opposite) (As := [.int (gI M b2 2)]) (rest := []) ⟨hx, hb, hml, hown, hB⟩ hK hE hC (c_X6_opposite l D cy ad L H.size M (gI M b2 2)) (nw_X1_162 hE.2) mw_2_91 mw_1_1 mw_2_92 yd_X6_opposite ⟨rfl, rfl⟩ ⟨Nat.le_of_ble_eq_true rfl, Nat.le_of_ble_eq_true rfl⟩ rfl hl.1 rfl (Nat.le_of_ble_eq_true rfl) dX1_firstOpenFrom_4 ⟨Nat.le_refl _, Nat.le_refl _⟩) hC (fun r N_ H locs hp hC => ?_)
  obtain ⟨hr_, hM_⟩ := hp
  subst hr_
  rw [hM_] at hC
  refine lv_topi (fun x1 ex1 => ?_)
  have hT : sp_X1_firstOpenFrom M a1 b2 = sp_X1_firstOpenFrom_n3 M a1 b2 x1 := by rw [ex1]; exact hT
  have hV : vc_X1_firstOpenFrom_n3 M a1 b2 x1 := by rw [ex1]; exact hV
  refine lv_istore_n (lv' := [(3, .int x1), (0, .ref (ad 1)), (1, .int a1), (2, .ref (ad b2))]) hx hb dX1_firstOpenFrom_7 rfl hl (by decide) rfl (fun ls hl => ?_)
  refine lv_iconst (v := 0) hx hb dX1_firstOpenFrom_8 (by decide) ?_
  refine lv_istore (lv' := [(4, .int 0), (3, .int x1), (0, .ref (ad 1)), (1, .int a1), (2, .ref (ad b2))]) hx hb dX1_firstOpenFrom_9 hl (by decide) rfl (fun ls hl => ?_)
  exact J11 6 x1 0 _ _ _  hT hV hC (lv_sub hl [2, 3, 4, 1, 0] rfl)
set_option maxHeartbeats 4000000 in
set_option maxRecDepth 100000 in
theorem c_X6_distance (l : Launch) (D : va_G) (cy ad : Nat → Nat) (L : List Nat) (sz : Nat) (M : Mem) (a1 : Int32) (a2 : Int32) (a3 : Int32) (a4 : Int32) : Met l yX6_distance (Cond.code yX6_distance cX6_distance 6 (some .int) :: BG) ({ frames := 0, cells := 0, slots := 0, locals := 0 }) (va_Pc [.int a1, .int a2, .int a3, .int a4] (PW D cy ad L M sz)) (va_Qi (fun r N => r = sp_X6_distance a1 a2 a3 a4 ∧ N = M) (OW D cy ad L sz) (fA ad L sz)) 0 0 (fA ad L sz) := by
  refine q_start (by decide) (Nat.le_of_ble_eq_true rfl) (fun p e s m below meth c H locs ls hsz hx hb hr hlocks hml hown hB hK hE hC hl => ?_)
  subst hsz
  have hown : s.vm.findClass "MazeBoard" = some m.cls := hown
  have hl : lv_has ls 6 [(0, .int a1), (1, .int a2), (2, .int a3), (3, .int a4)] := hl
  have hT : sp_X6_distance a1 a2 a3 a4 = sp_X6_distance_n2 a2 a4 (a1 - a3) := rfl
  refine lv_iload_n hx hb dX6_distance_0 rfl (lv_at hl 0 rfl) ?_
  refine lv_iload_n hx hb dX6_distance_1 rfl (lv_at hl 2 rfl) ?_
  refine lv_isub hx hb dX6_distance_2 ?_
  refine lv_topi (fun x1 ex1 => ?_)
  have hT : sp_X6_distance a1 a2 a3 a4 = sp_X6_distance_n2 a2 a4 x1 := by rw [ex1]; exact hT
  refine lv_istore (lv' := [(4, .int x1), (0, .int a1), (1, .int a2), (2, .int a3), (3, .int a4)]) hx hb dX6_distance_3 hl (by decide) rfl (fun ls hl => ?_)
  refine lv_iload_n hx hb dX6_distance_5 rfl (lv_at hl 2 rfl) ?_
  refine lv_iload_n hx hb dX6_distance_6 rfl (lv_at hl 4 rfl) ?_
  refine lv_isub hx hb dX6_distance_7 ?_
  refine lv_topi (fun x2 ex2 => ?_)
  have hT : sp_X6_distance a1 a2 a3 a4 = sp_X6_distance_n1 x1 x2 := by rw [ex2]; exact hT
  refine lv_istore (lv' := [(5, .int x2), (4, .int x1), (0, .int a1), (1, .int a2), (2, .int a3), (3, .int a4)]) hx hb dX6_distance_8 hl (by decide) rfl (fun ls hl => ?_)
  refine lv_iload hx hb dX6_distance_10 (lv_at hl 1 rfl) ?_
  refine lv_iload hx hb dX6_distance_12 (lv_at hl 1 rfl) ?_
  refine lv_imul hx hb dX6_distance_14 ?_
  refine lv_iload hx hb dX6_distance_15 (lv_at hl 0 rfl) ?_
  refine lv_iload hx hb dX6_distance_17 (lv_at hl 0 rfl) ?_
  refine lv_imul hx hb dX6_distance_19 ?_
  refine lv_iadd hx hb dX6_distance_20 ?_
  exact q_reti hx hb hr hlocks hC ⟨hT.symm, rfl⟩ dX6_distance_21
set_option maxHeartbeats 4000000 in
set_option maxRecDepth 100000 in
theorem c_X1_nearestToAim (l : Launch) (D : va_G) (cy ad : Nat → Nat) (L : List Nat) (sz : Nat) (hL : lr 1 9 L) (M : Mem) (b1 : Nat) (hb1 : isA b1) (hV : vc_X1_nearestToAim M b1) : Met l yX1_nearestToAim (Cond.code yX1_nearestToAim cX1_nearestToAim 9 (some .int) :: BG) ({ frames := 2, cells := 0, slots := 0, locals := 45 }) (va_Pc [.ref (ad 1), .ref (ad b1)] (PW D cy ad L M sz)) (va_Qi (fun r N => r = sp_X1_nearestToAim M b1 ∧ N = M) (OW D cy ad L sz) (fA ad L sz)) 0 0 (fA ad L sz) := by
  refine q_start (by decide) (Nat.le_of_ble_eq_true rfl) (fun p e s m below meth c H locs ls hsz hx hb hr hlocks hml hown hB hK hE hC hl => ?_)
  subst hsz
  have hown : s.vm.findClass "MazeBoard$Game" = some m.cls := hown
  have hl : lv_has ls 9 [(0, .ref (ad 1)), (1, .ref (ad b1))] := hl
  have J17 : ∀ (n : Nat) (x1 : Int32) (x2 : Int32) (x3 : Int32) (x4 : Int32) (H : Heap) (locs : List Loc) (ls : Array Slot) (hT : sp_X1_nearestToAim M b1 = sp_X1_nearestToAim_B17 n M b1 x1 x2 x3 x4) (hV : vc_X1_nearestToAim_B17 n M b1 x1 x2 x3 x4) (hC : Cx D cy ad R0 L (fA ad L s.heap.size) s M H locs) (hl : lv_has ls 9 [(0, .ref (ad 1)), (1, .ref (ad b1)), (2, .int x1), (3, .int x2), (4, .int x3), (5, .int x4)]), W p l e ({ frames := 2, cells := 0, slots := 0, locals := 45 }) s m ([.ref (ad 1), .ref (ad b1)] : List Value).toArray below meth c H locs 0 0 (MQ below (va_Qi (fun r N => r = sp_X1_nearestToAim M b1 ∧ N = M) (OW D cy ad L s.heap.size) (fA ad L s.heap.size)) ([.ref (ad 1), .ref (ad b1)] : List Value).toArray s 0 0 (fA ad L s.heap.size)) (F0 m 17 ls []) := by
    intro n
    induction n with
    | zero => intro x1 x2 x3 x4 H locs ls  hT hV; exact hV.elim
    | succ n ih =>
      have J98 : ∀ (x1 : Int32) (x4 : Int32) (x8 : Int32) (x9 : Int32) (H : Heap) (locs : List Loc) (ls : Array Slot) (hT : sp_X1_nearestToAim M b1 = sp_X1_nearestToAim_B98 (sp_X1_nearestToAim_B17 n) M b1 x1 x4 x8 x9) (hV : vc_X1_nearestToAim_B98 (vc_X1_nearestToAim_B17 n) M b1 x1 x4 x8 x9) (hC : Cx D cy ad R0 L (fA ad L s.heap.size) s M H locs) (hl : lv_has ls 9 [(0, .ref (ad 1)), (1, .ref (ad b1)), (2, .int x1), (3, .int x8), (4, .int x9), (5, .int x4)]), W p l e ({ frames := 2, cells := 0, slots := 0, locals := 45 }) s m ([.ref (ad 1), .ref (ad b1)] : List Value).toArray below meth c H locs 0 0 (MQ below (va_Qi (fun r N => r = sp_X1_nearestToAim M b1 ∧ N = M) (OW D cy ad L s.heap.size) (fA ad L s.heap.size)) ([.ref (ad 1), .ref (ad b1)] : List Value).toArray s 0 0 (fA ad L s.heap.size)) (F0 m 98 ls []) := by
        intro x1 x4 x8 x9 H locs ls  hT hV hC hl
        have hT : sp_X1_nearestToAim M b1 = sp_X1_nearestToAim_n1 (sp_X1_nearestToAim_B17 n) M b1 x1 x8 x9 (x4 + 1) := hT
        have hV : vc_X1_nearestToAim_n1 (vc_X1_nearestToAim_B17 n) M b1 x1 x8 x9 (x4 + 1) := hV
        obtain ⟨x10, ex10⟩ : ∃ z : Int32, z = x4 + 1 := ⟨_, rfl⟩
        have hT : sp_X1_nearestToAim M b1 = sp_X1_nearestToAim_n1 (sp_X1_nearestToAim_B17 n) M b1 x1 x8 x9 x10 := by rw [ex10]; exact hT
        have hV : vc_X1_nearestToAim_n1 (vc_X1_nearestToAim_B17 n) M b1 x1 x8 x9 x10 := by rw [ex10]; exact hV
        refine lv_iinc (v := x10) (lv' := [(5, .int x10), (0, .ref (ad 1)), (1, .ref (ad b1)), (2, .int x1), (3, .int x8), (4, .int x9)]) hx hb dX1_nearestToAim_98 hl (k := 5) rfl (by rw [ex10]; rfl) (by decide) rfl (fun ls hl => ?_)
        refine lv_goto (tgt := 17) hx hb dX1_nearestToAim_101 (by decide) ?_
        exact ih x1 x8 x9 x10 _ _ _  hT hV hC (lv_sub hl [1, 2, 3, 4, 5, 0] rfl)
      intro x1 x2 x3 x4 H locs ls  hT hV hC hl
      have hT : sp_X1_nearestToAim M b1 = if 4 ≤ x4 then x2 else (if x4 = x1 then (sp_X1_nearestToAim_B98 (sp_X1_nearestToAim_B17 n) M b1 x1 x4 x2 x3) else (if (sp_X2_isOpen M b1 x4) = 0 then (sp_X1_nearestToAim_B98 (sp_X1_nearestToAim_B17 n) M b1 x1 x4 x2 x3) else (sp_X1_nearestToAim_n4 (sp_X1_nearestToAim_B17 n) M b1 x1 x2 x3 x4 (sp_X6_nextColumn (gI M b1 0) x4)))) := hT
      have hV : if 4 ≤ x4 then True else (if x4 = x1 then vc_X1_nearestToAim_B98 (vc_X1_nearestToAim_B17 n) M b1 x1 x4 x2 x3 else (vc_X2_isOpen M b1 x4 ∧ (if (sp_X2_isOpen M b1 x4) = 0 then vc_X1_nearestToAim_B98 (vc_X1_nearestToAim_B17 n) M b1 x1 x4 x2 x3 else (vc_X1_nearestToAim_n4 (vc_X1_nearestToAim_B17 n) M b1 x1 x2 x3 x4 (sp_X6_nextColumn (gI M b1 0) x4))))) := hV
      refine lv_iload hx hb dX1_nearestToAim_17 (lv_at hl 5 rfl) ?_
      refine lv_iconst (v := 4) hx hb dX1_nearestToAim_19 (by decide) ?_
      refine lv_icmp_ge (tgt := 104) hx hb dX1_nearestToAim_20 (by decide) (fun c20 => ?_) (fun c20 => ?_)
      · have hT : sp_X1_nearestToAim M b1 = x2 := hT.trans (if_pos c20)
        refine lv_iload_n hx hb dX1_nearestToAim_104 rfl (lv_at hl 3 rfl) ?_
        exact q_reti hx hb hr hlocks hC ⟨hT.symm, rfl⟩ dX1_nearestToAim_105
      · have hT : sp_X1_nearestToAim M b1 = if x4 = x1 then (sp_X1_nearestToAim_B98 (sp_X1_nearestToAim_B17 n) M b1 x1 x4 x2 x3) else (if (sp_X2_isOpen M b1 x4) = 0 then (sp_X1_nearestToAim_B98 (sp_X1_nearestToAim_B17 n) M b1 x1 x4 x2 x3) else (sp_X1_nearestToAim_n4 (sp_X1_nearestToAim_B17 n) M b1 x1 x2 x3 x4 (sp_X6_nextColumn (gI M b1 0) x4))) := hT.trans (if_neg c20)
        have hV : if x4 = x1 then vc_X1_nearestToAim_B98 (vc_X1_nearestToAim_B17 n) M b1 x1 x4 x2 x3 else (vc_X2_isOpen M b1 x4 ∧ (if (sp_X2_isOpen M b1 x4) = 0 then vc_X1_nearestToAim_B98 (vc_X1_nearestToAim_B17 n) M b1 x1 x4 x2 x3 else (vc_X1_nearestToAim_n4 (vc_X1_nearestToAim_B17 n) M b1 x1 x2 x3 x4 (sp_X6_nextColumn (gI M b1 0) x4)))) := iteF hV c20
        refine lv_iload hx hb dX1_nearestToAim_23 (lv_at hl 5 rfl) ?_
        refine lv_iload_n hx hb dX1_nearestToAim_25 rfl (lv_at hl 2 rfl) ?_
        refine lv_icmp_eq (tgt := 98) hx hb dX1_nearestToAim_26 (by decide) (fun c26 => ?_) (fun c26 => ?_)
        · have hT : sp_X1_nearestToAim M b1 = sp_X1_nearestToAim_B98 (sp_X1_nearestToAim_B17 n) M b1 x1 x4 x2 x3 := hT.trans (if_pos c26)
          have hV : vc_X1_nearestToAim_B98 (vc_X1_nearestToAim_B17 n) M b1 x1 x4 x2 x3 := iteT hV c26
          exact J98 x1 x4 x2 x3 _ _ _  hT hV hC (lv_sub hl [0, 1, 2, 3, 4, 5] rfl)
        · have hT : sp_X1_nearestToAim M b1 = if (sp_X2_isOpen M b1 x4) = 0 then (sp_X1_nearestToAim_B98 (sp_X1_nearestToAim_B17 n) M b1 x1 x4 x2 x3) else (sp_X1_nearestToAim_n4 (sp_X1_nearestToAim_B17 n) M b1 x1 x2 x3 x4 (sp_X6_nextColumn (gI M b1 0) x4)) := hT.trans (if_neg c26)
          have hV : vc_X2_isOpen M b1 x4 ∧ (if (sp_X2_isOpen M b1 x4) = 0 then vc_X1_nearestToAim_B98 (vc_X1_nearestToAim_B17 n) M b1 x1 x4 x2 x3 else (vc_X1_nearestToAim_n4 (vc_X1_nearestToAim_B17 n) M b1 x1 x2 x3 x4 (sp_X6_nextColumn (gI M b1 0) x4))) := iteF hV c26
          refine lv_aload_n hx hb dX1_nearestToAim_29 rfl (lv_at hl 0 rfl) ?_
          refine q_getr (T := TX1) hx hb hB uw_X1 hown hK hC rfl (hL 1 (by decide) (by decide)) rfl 0 (by decide) rfl rfl (hB _ mw_1_127) dX1_nearestToAim_30 ?_
          refine lv_aload_n hx hb dX1_nearestToAim_33 rfl (lv_at hl 1 rfl) ?_
          refine lv_iload hx hb dX1_nearestToAim_34 (lv_at hl 5 rfl) ?_
          obtain ⟨v36, hV⟩ : vc_X2_isOpen M b1 x4 ∧ (if (sp_X2_isOpen M b1 x4) = 0 then vc_X1_nearestToAim_B98 (vc_X1_nearestToAim_B17 n) M b1 x1 x4 x2 x3 else (vc_X1_nearestToAim_n4 (vc_X1_nearestToAim_B17 n) M b1 x1 x2 x3 x4 (sp_X6_nextColumn (gI M b1 0) x4))) := hV
          refine q_Ci (q_V (own := "MazeBoard$Game") (y := yX2_isOpen) (As := [.ref (ad b1), .int x4]) (rest := []) ⟨hx, hb, hml, hown, hB⟩ hK hE hC (c_X2_isOpen l D cy ad L H.size (hL.sub (by decide) (by decide)) M b1 hb1 x4 v36) rfl (hL 2 (by decide) (by decide)) rfl mw_2_42 mw_2_43 mw_2_44 mw_1_3 mw_2_45 rfl yd_X2_isOpen ⟨rfl, rfl⟩ ⟨Nat.le_of_ble_eq_true rfl, Nat.le_of_ble_eq_true rfl⟩ rfl hl.1 rfl (Nat.le_of_ble_eq_true rfl) dX1_nearestToAim_36 ⟨Nat.le_refl _, Nat.le_refl _⟩) hC (fun r N_ H locs hp hC => ?_)
          obtain ⟨hr_, hM_⟩ := hp
          subst hr_
          rw [hM_] at hC
          refine lv_if_ne (tgt := 45) hx hb dX1_nearestToAim_39 (by decide) (fun c39 => ?_) (fun c39 => ?_)
          · have hT : sp_X1_nearestToAim M b1 = sp_X1_nearestToAim_n4 (sp_X1_nearestToAim_B17 n) M b1 x1 x2 x3 x4 (sp_X6_nextColumn (gI M b1 0) x4) := hT.trans (if_neg c39)
            have hV : vc_X1_nearestToAim_n4 (vc_X1_nearestToAim_B17 n) M b1 x1 x2 x3 x4 (sp_X6_nextColumn (gI M b1 0) x4) := iteF hV c39
            refine lv_aload_n hx hb dX1_nearestToAim_45 rfl (lv_at hl 1 rfl) ?_
            refine q_geti (T := TX0) hx hb hB uw_X0 hown hK hC (isA.sh hb1) (hL _ (Nat.le_trans (by decide) (hb1).1) (Nat.le_trans (hb1).2 (by decide))) rfl 0 (by decide) rfl (hB _ mw_1_51) dX1_nearestToAim_46 ?_
            refine lv_iload hx hb dX1_nearestToAim_49 (lv_at hl 5 rfl) ?_
            refine q_Ci (q_N (own := "MazeBoard$Game") (y := yX6_nextColumn) (As := [.int (gI M b1 0), .int x4]) (rest := []) ⟨hx, hb, hml, hown, hB⟩ hK hE hC (c_X6_nextColumn l D cy ad L H.size M (gI M b1 0) x4) (nw_X1_198 hE.2) mw_2_47 mw_1_1 mw_2_48 yd_X6_nextColumn ⟨rfl, rfl⟩ ⟨Nat.le_of_ble_eq_true rfl, Nat.le_of_ble_eq_true rfl⟩ rfl hl.1 rfl (Nat.le_of_ble_eq_true rfl) dX1_nearestToAim_51 ⟨Nat.le_refl _, Nat.le_refl _⟩) hC (fun r N_ H locs hp hC => ?_)
            obtain ⟨hr_, hM_⟩ := hp
            subst hr_
            rw [hM_] at hC
            refine lv_topi (fun x5 ex5 => ?_)
            have hT : sp_X1_nearestToAim M b1 = sp_X1_nearestToAim_n4 (sp_X1_nearestToAim_B17 n) M b1 x1 x2 x3 x4 x5 := by rw [ex5]; exact hT
            have hV : vc_X1_nearestToAim_n4 (vc_X1_nearestToAim_B17 n) M b1 x1 x2 x3 x4 x5 := by rw [ex5]; exact hV
            refine lv_istore (lv' := [(6, .int x5), (0, .ref (ad 1)), (1, .ref (ad b1)), (2, .int x1), (3, .int x2), (4, .int x3), (5, .int x4)]) hx hb dX1_nearestToAim_54 hl (by decide) rfl (fun ls hl => ?_)
            refine lv_aload_n hx hb dX1_nearestToAim_56 rfl (lv_at hl 2 rfl) ?_
            refine q_geti (T := TX0) hx hb hB uw_X0 hown hK hC (isA.sh hb1) (hL _ (Nat.le_trans (by decide) (hb1).1) (Nat.le_trans (hb1).2 (by decide))) rfl 1 (by decide) rfl (hB _ mw_1_56) dX1_nearestToAim_57 ?_
            refine lv_iload hx hb dX1_nearestToAim_60 (lv_at hl 6 rfl) ?_
            refine q_Ci (q_N (own := "MazeBoard$Game") (y := yX6_nextRow) (As := [.int (gI M b1 1), .int x4]) (rest := []) ⟨hx, hb, hml, hown, hB⟩ hK hE hC (c_X6_nextRow l D cy ad L H.size M (gI M b1 1) x4) (nw_X1_201 hE.2) mw_2_50 mw_1_1 mw_2_51 yd_X6_nextRow ⟨rfl, rfl⟩ ⟨Nat.le_of_ble_eq_true rfl, Nat.le_of_ble_eq_true rfl⟩ rfl hl.1 rfl (Nat.le_of_ble_eq_true rfl) dX1_nearestToAim_62 ⟨Nat.le_refl _, Nat.le_refl _⟩) hC (fun r N_ H locs hp hC => ?_)
            obtain ⟨hr_, hM_⟩ := hp
            subst hr_
            rw [hM_] at hC
            refine lv_topi (fun x6 ex6 => ?_)
            have hT : sp_X1_nearestToAim M b1 = sp_X1_nearestToAim_n3 (sp_X1_nearestToAim_B17 n) M b1 x1 x2 x3 x4 x5 x6 := by rw [ex6]; exact hT
            have hV : vc_X1_nearestToAim_n3 (vc_X1_nearestToAim_B17 n) M b1 x1 x2 x3 x4 x5 x6 := by rw [ex6]; exact hV
            refine lv_istore (lv' := [(7, .int x6), (6, .int x5), (0, .ref (ad 1)), (1, .ref (ad b1)), (2, .int x1), (3, .int x2), (4, .int x3), (5, .int x4)]) hx hb dX1_nearestToAim_65 hl (by decide) rfl (fun ls hl => ?_)
            refine lv_iload hx hb dX1_nearestToAim_67 (lv_at hl 1 rfl) ?_
            refine lv_iload hx hb dX1_nearestToAim_69 (lv_at hl 0 rfl) ?_
            refine lv_aload_n hx hb dX1_nearestToAim_71 rfl (lv_at hl 3 rfl) ?_
            refine q_geti (T := TX0) hx hb hB uw_X0 hown hK hC (isA.sh hb1) (hL _ (Nat.le_trans (by decide) (hb1).1) (Nat.le_trans (hb1).2 (by decide))) rfl 9 (by decide) rfl (hB _ mw_1_79) dX1_nearestToAim_72 ?_
            refine lv_aload_n hx hb dX1_nearestToAim_75 rfl (lv_at hl 3 rfl) ?_
            refine q_geti (T := TX0) hx hb hB uw_X0 hown hK hC (isA.sh hb1) (hL _ (Nat.le_trans (by decide) (hb1).1) (Nat.le_trans (hb1).2 (by decide))) rfl 10 (by decide) rfl (hB _ mw_1_81) dX1_nearestToAim_76 ?_
            refine q_Ci (q_N (own := "MazeBoard$Game") (y := yX6_distance) (As := [.int x5, .int x6, .int (gI M b1 9), .int (gI M b1 10)]) (rest := []) ⟨hx, hb, hml, hown, hB⟩ hK hE hC (c_X6_distance l D cy ad L H.size M x5 x6 (gI M b1 9) (gI M b1 10)) (nw_X1_210 hE.2) mw_2_127 mw_1_1 mw_2_128 yd_X6_distance ⟨rfl, rfl⟩ ⟨Nat.le_of_ble_eq_true rfl, Nat.le_of_ble_eq_true rfl⟩ rfl hl.1 rfl (Nat.le_of_ble_eq_true rfl) dX1_nearestToAim_79 ⟨Nat.le_refl _, Nat.le_refl _⟩) hC (fun r N_ H locs hp hC => ?_)
            obtain ⟨hr_, hM_⟩ := hp
            subst hr_
            rw [hM_] at hC
            refine lv_topi (fun x7 ex7 => ?_)
            have hT : sp_X1_nearestToAim M b1 = sp_X1_nearestToAim_n2 (sp_X1_nearestToAim_B17 n) M b1 x1 x2 x3 x4 x7 := by rw [ex7]; exact hT
            have hV : vc_X1_nearestToAim_n2 (vc_X1_nearestToAim_B17 n) M b1 x1 x2 x3 x4 x7 := by rw [ex7]; exact hV
            refine lv_istore (lv' := [(8, .int x7), (7, .int x6), (6, .int x5), (0, .ref (ad 1)), (1, .ref (ad b1)), (2, .int x1), (3, .int x2), (4, .int x3), (5, .int x4)]) hx hb dX1_nearestToAim_82 hl (by decide) rfl (fun ls hl => ?_)
            refine lv_iload hx hb dX1_nearestToAim_84 (lv_at hl 0 rfl) ?_
            refine lv_iload hx hb dX1_nearestToAim_86 (lv_at hl 7 rfl) ?_
            refine lv_icmp_ge (tgt := 98) hx hb dX1_nearestToAim_88 (by decide) (fun c88 => ?_) (fun c88 => ?_)
            · have hT : sp_X1_nearestToAim M b1 = sp_X1_nearestToAim_B98 (sp_X1_nearestToAim_B17 n) M b1 x1 x4 x2 x3 := hT.trans (if_pos c88)
              have hV : vc_X1_nearestToAim_B98 (vc_X1_nearestToAim_B17 n) M b1 x1 x4 x2 x3 := iteT hV c88
              exact J98 x1 x4 x2 x3 _ _ _  hT hV hC (lv_sub hl [3, 4, 5, 6, 7, 8] rfl)
            · have hT : sp_X1_nearestToAim M b1 = sp_X1_nearestToAim_B98 (sp_X1_nearestToAim_B17 n) M b1 x1 x4 x4 x7 := hT.trans (if_neg c88)
              have hV : vc_X1_nearestToAim_B98 (vc_X1_nearestToAim_B17 n) M b1 x1 x4 x4 x7 := iteF hV c88
              refine lv_iload hx hb dX1_nearestToAim_91 (lv_at hl 0 rfl) ?_
              refine lv_istore (lv' := [(4, .int x7), (8, .int x7), (7, .int x6), (6, .int x5), (0, .ref (ad 1)), (1, .ref (ad b1)), (2, .int x1), (3, .int x2), (5, .int x4)]) hx hb dX1_nearestToAim_93 hl (by decide) rfl (fun ls hl => ?_)
              refine lv_iload hx hb dX1_nearestToAim_95 (lv_at hl 8 rfl) ?_
              refine lv_istore_n (lv' := [(3, .int x4), (4, .int x7), (8, .int x7), (7, .int x6), (6, .int x5), (0, .ref (ad 1)), (1, .ref (ad b1)), (2, .int x1), (5, .int x4)]) hx hb dX1_nearestToAim_97 rfl hl (by decide) rfl (fun ls hl => ?_)
              exact J98 x1 x4 x4 x7 _ _ _  hT hV hC (lv_sub hl [5, 6, 7, 0, 1, 8] rfl)
          · have hT : sp_X1_nearestToAim M b1 = sp_X1_nearestToAim_B98 (sp_X1_nearestToAim_B17 n) M b1 x1 x4 x2 x3 := hT.trans (if_pos c39)
            have hV : vc_X1_nearestToAim_B98 (vc_X1_nearestToAim_B17 n) M b1 x1 x4 x2 x3 := iteT hV c39
            refine lv_goto (tgt := 98) hx hb dX1_nearestToAim_42 (by decide) ?_
            exact J98 x1 x4 x2 x3 _ _ _  hT hV hC (lv_sub hl [0, 1, 2, 3, 4, 5] rfl)
  have hT : sp_X1_nearestToAim M b1 = sp_X1_nearestToAim_n5 M b1 (sp_X6_opposite (gI M b1 2)) := rfl
  have hV : vc_X1_nearestToAim_n5 M b1 (sp_X6_opposite (gI M b1 2)) := hV
  refine lv_aload_n hx hb dX1_nearestToAim_0 rfl (lv_at hl 1 rfl) ?_
  refine q_geti (T := TX0) hx hb hB uw_X0 hown hK hC (isA.sh hb1) (hL _ (Nat.le_trans (by decide) (hb1).1) (Nat.le_trans (hb1).2 (by decide))) rfl 2 (by decide) rfl (hB _ mw_1_60) dX1_nearestToAim_1 ?_
  refine q_Ci (q_N (own := "MazeBoard$Game") (y := yX6_opposite) (As := [.int (gI M b1 2)]) (rest := []) ⟨hx, hb, hml, hown, hB⟩ hK hE hC (c_X6_opposite l D cy ad L H.size M (gI M b1 2)) (nw_X1_162 hE.2) mw_2_91 mw_1_1 mw_2_92 yd_X6_opposite ⟨rfl, rfl⟩ ⟨Nat.le_of_ble_eq_true rfl, Nat.le_of_ble_eq_true rfl⟩ rfl hl.1 rfl (Nat.le_of_ble_eq_true rfl) dX1_nearestToAim_4 ⟨Nat.le_refl _, Nat.le_refl _⟩) hC (fun r N_ H locs hp hC => ?_)
  obtain ⟨hr_, hM_⟩ := hp
  subst hr_
  rw [hM_] at hC
  refine lv_topi (fun x1 ex1 => ?_)
  have hT : sp_X1_nearestToAim M b1 = sp_X1_nearestToAim_n5 M b1 x1 := by rw [ex1]; exact hT
  have hV : vc_X1_nearestToAim_n5 M b1 x1 := by rw [ex1]; exact hV
  refine lv_istore_n (lv' := [(2, .int x1), (0, .ref (ad 1)), (1, .ref (ad b1))]) hx hb dX1_nearestToAim_7 rfl hl (by decide) rfl (fun ls hl => ?_)
  refine lv_iload_n hx hb dX1_nearestToAim_8 rfl (lv_at hl 0 rfl) ?_
  refine lv_istore_n (lv' := [(3, .int x1), (2, .int x1), (0, .ref (ad 1)), (1, .ref (ad b1))]) hx hb dX1_nearestToAim_9 rfl hl (by decide) rfl (fun ls hl => ?_)
  refine lv_ldc (v := 2147483647) hx hb hown (hB _ mw_2_143) dX1_nearestToAim_10 ?_
  refine lv_istore (lv' := [(4, .int 2147483647), (3, .int x1), (2, .int x1), (0, .ref (ad 1)), (1, .ref (ad b1))]) hx hb dX1_nearestToAim_12 hl (by decide) rfl (fun ls hl => ?_)
  refine lv_iconst (v := 0) hx hb dX1_nearestToAim_14 (by decide) ?_
  refine lv_istore (lv' := [(5, .int 0), (4, .int 2147483647), (3, .int x1), (2, .int x1), (0, .ref (ad 1)), (1, .ref (ad b1))]) hx hb dX1_nearestToAim_15 hl (by decide) rfl (fun ls hl => ?_)
  exact J17 6 x1 x1 2147483647 0 _ _ _  hT hV hC (lv_sub hl [4, 5, 3, 2, 1, 0] rfl)
