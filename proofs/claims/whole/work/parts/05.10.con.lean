set_option maxHeartbeats 4000000 in
set_option maxRecDepth 100000 in
theorem c_X7_reset (l : Launch) (D : va_G) (cy ad : Nat → Nat) (L : List Nat) (sz : Nat) (hL : lr 20 34 L) (M : Mem)  (hV : vc_X7_reset M ) : Met l yX7_reset (Cond.code yX7_reset cX7_reset 2 (none) :: BG) ({ frames := 2, cells := 0, slots := 0, locals := 45 }) (va_Pc [.ref (ad 20)] (PW D cy ad L M sz)) (va_Qv (fun N => N = sp_X7_reset M) (OW D cy ad L sz) (fA ad L sz)) 0 0 (fA ad L sz) := by
  refine q_start (by decide) (Nat.le_of_ble_eq_true rfl) (fun p e s m below meth c H locs ls hsz hx hb hr hlocks hml hown hB hK hE hC hl => ?_)
  subst hsz
  have hown : s.vm.findClass "MazeBoardModel" = some m.cls := hown
  have hl : lv_has ls 2 [(0, .ref (ad 20))] := hl
  have J60 : ∀ (n : Nat) (x13 : Int32) (M14 : Mem) (H : Heap) (locs : List Loc) (ls : Array Slot) (hT : sp_X7_reset M = sp_X7_reset_B60 n x13 M14) (hV : vc_X7_reset_B60 n x13 M14) (hC : Cx D cy ad R0 L (fA ad L s.heap.size) s M14 H locs) (hl : lv_has ls 2 [(0, .ref (ad 20)), (1, .int x13)]), W p l e ({ frames := 2, cells := 0, slots := 0, locals := 45 }) s m ([.ref (ad 20)] : List Value).toArray below meth c H locs 0 0 (MQ below (va_Qv (fun N => N = sp_X7_reset M) (OW D cy ad L s.heap.size) (fA ad L s.heap.size)) ([.ref (ad 20)] : List Value).toArray s 0 0 (fA ad L s.heap.size)) (F0 m 60 ls []) := by
    intro n
    induction n with
    | zero => intro x13 M14 H locs ls  hT hV; exact hV.elim
    | succ n ih =>
      intro x13 M14 H locs ls  hT hV hC hl
      have hT : sp_X7_reset M = if 3 ≤ x13 then M14 else (sp_X7_reset_n4 (sp_X7_reset_B60 n) x13 (wI M14 32 x13.toNatClampNeg 0)) := hT
      have hV : if 3 ≤ x13 then True else (vp_in x13 3 ∧ (vc_X7_reset_n4 (vc_X7_reset_B60 n) x13 (wI M14 32 x13.toNatClampNeg 0))) := hV
      refine lv_iload_n hx hb dX7_reset_60 rfl (lv_at hl 1 rfl) ?_
      refine lv_iconst (v := 3) hx hb dX7_reset_61 (by decide) ?_
      refine lv_icmp_ge (tgt := 92) hx hb dX7_reset_62 (by decide) (fun c62 => ?_) (fun c62 => ?_)
      · have hT : sp_X7_reset M = M14 := hT.trans (if_pos c62)
        exact q_retv hx hb hr hlocks hC hT.symm dX7_reset_92
      · have hT : sp_X7_reset M = sp_X7_reset_n4 (sp_X7_reset_B60 n) x13 (wI M14 32 x13.toNatClampNeg 0) := hT.trans (if_neg c62)
        have hV : vp_in x13 3 ∧ (vc_X7_reset_n4 (vc_X7_reset_B60 n) x13 (wI M14 32 x13.toNatClampNeg 0)) := iteF hV c62
        refine lv_aload_n hx hb dX7_reset_65 rfl (lv_at hl 0 rfl) ?_
        refine q_getr (T := TX7) hx hb hB uw_X7 hown hK hC rfl (hL 20 (by decide) (by decide)) rfl 25 (by decide) rfl rfl (hB _ mw_3_69) dX7_reset_66 ?_
        refine lv_iload_n hx hb dX7_reset_69 rfl (lv_at hl 1 rfl) ?_
        refine lv_iconst (v := 0) hx hb dX7_reset_70 (by decide) ?_
        obtain ⟨w71, hV⟩ : vp_in x13 3 ∧ (vc_X7_reset_n4 (vc_X7_reset_B60 n) x13 (wI M14 32 x13.toNatClampNeg 0)) := hV
        refine q_iast hx hb hK hC rfl (hL 32 (by decide) (by decide)) rfl w71 rfl dX7_reset_71 (fun H locs hC => ?_)
        obtain ⟨M15, eM15⟩ : ∃ z : Mem, z = wI M14 32 x13.toNatClampNeg 0 := ⟨_, rfl⟩
        rw [← eM15] at hC
        have hT : sp_X7_reset M = sp_X7_reset_n4 (sp_X7_reset_B60 n) x13 M15 := by rw [eM15]; exact hT
        have hV : vc_X7_reset_n4 (vc_X7_reset_B60 n) x13 M15 := by rw [eM15]; exact hV
        refine lv_aload_n hx hb dX7_reset_72 rfl (lv_at hl 0 rfl) ?_
        refine q_getr (T := TX7) hx hb hB uw_X7 hown hK hC rfl (hL 20 (by decide) (by decide)) rfl 26 (by decide) rfl rfl (hB _ mw_3_70) dX7_reset_73 ?_
        refine lv_iload_n hx hb dX7_reset_76 rfl (lv_at hl 1 rfl) ?_
        refine lv_iconst (v := 0) hx hb dX7_reset_77 (by decide) ?_
        obtain ⟨w78, hV⟩ : vp_in x13 3 ∧ (vc_X7_reset_n3 (vc_X7_reset_B60 n) x13 (wI M15 33 x13.toNatClampNeg 0)) := hV
        refine q_iast hx hb hK hC rfl (hL 33 (by decide) (by decide)) rfl w78 rfl dX7_reset_78 (fun H locs hC => ?_)
        obtain ⟨M16, eM16⟩ : ∃ z : Mem, z = wI M15 33 x13.toNatClampNeg 0 := ⟨_, rfl⟩
        rw [← eM16] at hC
        have hT : sp_X7_reset M = sp_X7_reset_n3 (sp_X7_reset_B60 n) x13 M16 := by rw [eM16]; exact hT
        have hV : vc_X7_reset_n3 (vc_X7_reset_B60 n) x13 M16 := by rw [eM16]; exact hV
        refine lv_aload_n hx hb dX7_reset_79 rfl (lv_at hl 0 rfl) ?_
        refine q_getr (T := TX7) hx hb hB uw_X7 hown hK hC rfl (hL 20 (by decide) (by decide)) rfl 27 (by decide) rfl rfl (hB _ mw_3_71) dX7_reset_80 ?_
        refine lv_iload_n hx hb dX7_reset_83 rfl (lv_at hl 1 rfl) ?_
        refine lv_fconst0 hx hb dX7_reset_84 ?_
        obtain ⟨w85, hV⟩ : vp_in x13 3 ∧ (vc_X7_reset_n2 (vc_X7_reset_B60 n) x13 (wF M16 34 x13.toNatClampNeg FP.fconst0)) := hV
        refine q_fast hx hb hK hC rfl (hL 34 (by decide) (by decide)) rfl w85 rfl dX7_reset_85 (fun H locs hC => ?_)
        obtain ⟨M17, eM17⟩ : ∃ z : Mem, z = wF M16 34 x13.toNatClampNeg FP.fconst0 := ⟨_, rfl⟩
        rw [← eM17] at hC
        have hT : sp_X7_reset M = sp_X7_reset_n2 (sp_X7_reset_B60 n) x13 M17 := by rw [eM17]; exact hT
        have hV : vc_X7_reset_n2 (vc_X7_reset_B60 n) x13 M17 := by rw [eM17]; exact hV
        obtain ⟨x18, ex18⟩ : ∃ z : Int32, z = x13 + 1 := ⟨_, rfl⟩
        have hT : sp_X7_reset M = sp_X7_reset_n1 (sp_X7_reset_B60 n) M17 x18 := by rw [ex18]; exact hT
        have hV : vc_X7_reset_n1 (vc_X7_reset_B60 n) M17 x18 := by rw [ex18]; exact hV
        refine lv_iinc (v := x18) (lv' := [(1, .int x18), (0, .ref (ad 20))]) hx hb dX7_reset_86 hl (k := 1) rfl (by rw [ex18]; rfl) (by decide) rfl (fun ls hl => ?_)
        refine lv_goto (tgt := 60) hx hb dX7_reset_89 (by decide) ?_
        exact ih x18 M17 _ _ _  hT hV hC (lv_sub hl [1, 0] rfl)
  have hT : sp_X7_reset M = sp_X7_reset_n16 (wI M 20 2 0) := rfl
  have hV : vc_X7_reset_n16 (wI M 20 2 0) := hV
  refine lv_aload_n hx hb dX7_reset_0 rfl (lv_at hl 0 rfl) ?_
  refine lv_iconst (v := 0) hx hb dX7_reset_1 (by decide) ?_
  refine q_puti (T := TX7) hx hb hB uw_X7 tyX7 tyX7_ok nmX7 hown hK hC rfl (hL 20 (by decide) (by decide)) rfl 2 (by decide) rfl (hB _ mw_3_46) rfl rfl rfl rfl dX7_reset_2 (fun H locs hC => ?_)
  obtain ⟨M1, eM1⟩ : ∃ z : Mem, z = wI M 20 2 0 := ⟨_, rfl⟩
  rw [← eM1] at hC
  have hT : sp_X7_reset M = sp_X7_reset_n16 M1 := by rw [eM1]; exact hT
  have hV : vc_X7_reset_n16 M1 := by rw [eM1]; exact hV
  refine lv_aload_n hx hb dX7_reset_5 rfl (lv_at hl 0 rfl) ?_
  refine lv_iconst (v := 0) hx hb dX7_reset_6 (by decide) ?_
  refine q_puti (T := TX7) hx hb hB uw_X7 tyX7 tyX7_ok nmX7 hown hK hC rfl (hL 20 (by decide) (by decide)) rfl 3 (by decide) rfl (hB _ mw_3_47) rfl rfl (by decide) (by decide) dX7_reset_7 (fun H locs hC => ?_)
  obtain ⟨M2, eM2⟩ : ∃ z : Mem, z = wI M1 20 3 0 := ⟨_, rfl⟩
  rw [← eM2] at hC
  have hT : sp_X7_reset M = sp_X7_reset_n15 M2 := by rw [eM2]; exact hT
  have hV : vc_X7_reset_n15 M2 := by rw [eM2]; exact hV
  refine lv_aload_n hx hb dX7_reset_10 rfl (lv_at hl 0 rfl) ?_
  refine lv_iconst (v := 0) hx hb dX7_reset_11 (by decide) ?_
  refine q_puti (T := TX7) hx hb hB uw_X7 tyX7 tyX7_ok nmX7 hown hK hC rfl (hL 20 (by decide) (by decide)) rfl 4 (by decide) rfl (hB _ mw_3_48) rfl rfl rfl rfl dX7_reset_12 (fun H locs hC => ?_)
  obtain ⟨M3, eM3⟩ : ∃ z : Mem, z = wI M2 20 4 0 := ⟨_, rfl⟩
  rw [← eM3] at hC
  have hT : sp_X7_reset M = sp_X7_reset_n14 M3 := by rw [eM3]; exact hT
  have hV : vc_X7_reset_n14 M3 := by rw [eM3]; exact hV
  refine lv_aload_n hx hb dX7_reset_15 rfl (lv_at hl 0 rfl) ?_
  refine lv_iconst (v := 0) hx hb dX7_reset_16 (by decide) ?_
  refine q_puti (T := TX7) hx hb hB uw_X7 tyX7 tyX7_ok nmX7 hown hK hC rfl (hL 20 (by decide) (by decide)) rfl 6 (by decide) rfl (hB _ mw_3_50) rfl rfl (by decide) (by decide) dX7_reset_17 (fun H locs hC => ?_)
  obtain ⟨M4, eM4⟩ : ∃ z : Mem, z = wI M3 20 6 0 := ⟨_, rfl⟩
  rw [← eM4] at hC
  have hT : sp_X7_reset M = sp_X7_reset_n13 M4 := by rw [eM4]; exact hT
  have hV : vc_X7_reset_n13 M4 := by rw [eM4]; exact hV
  refine lv_aload_n hx hb dX7_reset_20 rfl (lv_at hl 0 rfl) ?_
  refine lv_iconst (v := 0) hx hb dX7_reset_21 (by decide) ?_
  refine q_puti (T := TX7) hx hb hB uw_X7 tyX7 tyX7_ok nmX7 hown hK hC rfl (hL 20 (by decide) (by decide)) rfl 7 (by decide) rfl (hB _ mw_3_51) rfl rfl rfl rfl dX7_reset_22 (fun H locs hC => ?_)
  obtain ⟨M5, eM5⟩ : ∃ z : Mem, z = wI M4 20 7 0 := ⟨_, rfl⟩
  rw [← eM5] at hC
  have hT : sp_X7_reset M = sp_X7_reset_n12 M5 := by rw [eM5]; exact hT
  have hV : vc_X7_reset_n12 M5 := by rw [eM5]; exact hV
  refine lv_aload_n hx hb dX7_reset_25 rfl (lv_at hl 0 rfl) ?_
  refine lv_iconst (v := 0) hx hb dX7_reset_26 (by decide) ?_
  refine q_puti (T := TX7) hx hb hB uw_X7 tyX7 tyX7_ok nmX7 hown hK hC rfl (hL 20 (by decide) (by decide)) rfl 8 (by decide) rfl (hB _ mw_3_52) rfl rfl rfl rfl dX7_reset_27 (fun H locs hC => ?_)
  obtain ⟨M6, eM6⟩ : ∃ z : Mem, z = wI M5 20 8 0 := ⟨_, rfl⟩
  rw [← eM6] at hC
  have hT : sp_X7_reset M = sp_X7_reset_n11 M6 := by rw [eM6]; exact hT
  have hV : vc_X7_reset_n11 M6 := by rw [eM6]; exact hV
  refine lv_aload_n hx hb dX7_reset_30 rfl (lv_at hl 0 rfl) ?_
  refine lv_iconst (v := 0) hx hb dX7_reset_31 (by decide) ?_
  refine q_puti (T := TX7) hx hb hB uw_X7 tyX7 tyX7_ok nmX7 hown hK hC rfl (hL 20 (by decide) (by decide)) rfl 11 (by decide) rfl (hB _ mw_3_55) rfl rfl rfl rfl dX7_reset_32 (fun H locs hC => ?_)
  obtain ⟨M7, eM7⟩ : ∃ z : Mem, z = wI M6 20 11 0 := ⟨_, rfl⟩
  rw [← eM7] at hC
  have hT : sp_X7_reset M = sp_X7_reset_n10 M7 := by rw [eM7]; exact hT
  have hV : vc_X7_reset_n10 M7 := by rw [eM7]; exact hV
  refine lv_aload_n hx hb dX7_reset_35 rfl (lv_at hl 0 rfl) ?_
  refine lv_iconst (v := 0) hx hb dX7_reset_36 (by decide) ?_
  refine q_puti (T := TX7) hx hb hB uw_X7 tyX7 tyX7_ok nmX7 hown hK hC rfl (hL 20 (by decide) (by decide)) rfl 12 (by decide) rfl (hB _ mw_3_56) rfl rfl rfl rfl dX7_reset_37 (fun H locs hC => ?_)
  obtain ⟨M8, eM8⟩ : ∃ z : Mem, z = wI M7 20 12 0 := ⟨_, rfl⟩
  rw [← eM8] at hC
  have hT : sp_X7_reset M = sp_X7_reset_n9 M8 := by rw [eM8]; exact hT
  have hV : vc_X7_reset_n9 M8 := by rw [eM8]; exact hV
  refine lv_aload_n hx hb dX7_reset_40 rfl (lv_at hl 0 rfl) ?_
  refine lv_iconst (v := 1) hx hb dX7_reset_41 (by decide) ?_
  refine q_puti (T := TX7) hx hb hB uw_X7 tyX7 tyX7_ok nmX7 hown hK hC rfl (hL 20 (by decide) (by decide)) rfl 14 (by decide) rfl (hB _ mw_3_58) rfl rfl rfl rfl dX7_reset_42 (fun H locs hC => ?_)
  obtain ⟨M9, eM9⟩ : ∃ z : Mem, z = wI M8 20 14 1 := ⟨_, rfl⟩
  rw [← eM9] at hC
  have hT : sp_X7_reset M = sp_X7_reset_n8 M9 := by rw [eM9]; exact hT
  have hV : vc_X7_reset_n8 M9 := by rw [eM9]; exact hV
  refine lv_aload_n hx hb dX7_reset_45 rfl (lv_at hl 0 rfl) ?_
  refine lv_iconst (v := (-1)) hx hb dX7_reset_46 (by decide) ?_
  refine q_puti (T := TX7) hx hb hB uw_X7 tyX7 tyX7_ok nmX7 hown hK hC rfl (hL 20 (by decide) (by decide)) rfl 15 (by decide) rfl (hB _ mw_3_59) rfl rfl rfl rfl dX7_reset_47 (fun H locs hC => ?_)
  obtain ⟨M10, eM10⟩ : ∃ z : Mem, z = wI M9 20 15 (-1) := ⟨_, rfl⟩
  rw [← eM10] at hC
  have hT : sp_X7_reset M = sp_X7_reset_n7 M10 := by rw [eM10]; exact hT
  have hV : vc_X7_reset_n7 M10 := by rw [eM10]; exact hV
  refine lv_aload_n hx hb dX7_reset_50 rfl (lv_at hl 0 rfl) ?_
  obtain ⟨v51, hV⟩ : vc_X7_fill M10 ∧ (vc_X7_reset_n6 (sp_X7_fill M10)) := hV
  refine q_Cv (q_V (own := "MazeBoardModel") (y := yX7_fill) (As := []) (rest := []) ⟨hx, hb, hml, hown, hB⟩ hK hE hC (c_X7_fill l D cy ad L H.size (hL.sub (by decide) (by decide)) M10  v51) rfl (hL 20 (by decide) (by decide)) rfl mw_3_32 mw_3_34 mw_0_24 mw_1_7 mw_3_35 rfl yd_X7_fill ⟨rfl, rfl⟩ ⟨Nat.le_of_ble_eq_true rfl, Nat.le_of_ble_eq_true rfl⟩ rfl hl.1 rfl (Nat.le_of_ble_eq_true rfl) dX7_reset_51 ⟨Nat.le_refl _, Nat.le_refl _⟩) hC (fun M11 H locs eM11 hC => ?_)
  have hT : sp_X7_reset M = sp_X7_reset_n6 M11 := by rw [eM11]; exact hT
  have hV : vc_X7_reset_n6 M11 := by rw [eM11]; exact hV
  refine lv_aload_n hx hb dX7_reset_54 rfl (lv_at hl 0 rfl) ?_
  obtain ⟨v55, hV⟩ : vc_X7_place M11 ∧ (vc_X7_reset_n5 (sp_X7_place M11)) := hV
  refine q_Cv (q_V (own := "MazeBoardModel") (y := yX7_place) (As := []) (rest := []) ⟨hx, hb, hml, hown, hB⟩ hK hE hC (c_X7_place l D cy ad L H.size (hL.sub (by decide) (by decide)) M11  v55) rfl (hL 20 (by decide) (by decide)) rfl mw_3_36 mw_3_38 mw_0_25 mw_1_7 mw_3_39 rfl yd_X7_place ⟨rfl, rfl⟩ ⟨Nat.le_of_ble_eq_true rfl, Nat.le_of_ble_eq_true rfl⟩ rfl hl.1 rfl (Nat.le_of_ble_eq_true rfl) dX7_reset_55 ⟨Nat.le_refl _, Nat.le_refl _⟩) hC (fun M12 H locs eM12 hC => ?_)
  have hT : sp_X7_reset M = sp_X7_reset_n5 M12 := by rw [eM12]; exact hT
  have hV : vc_X7_reset_n5 M12 := by rw [eM12]; exact hV
  refine lv_iconst (v := 0) hx hb dX7_reset_58 (by decide) ?_
  refine lv_istore_n (lv' := [(1, .int 0), (0, .ref (ad 20))]) hx hb dX7_reset_59 rfl hl (by decide) rfl (fun ls hl => ?_)
  exact J60 4 0 M12 _ _ _  hT hV hC (lv_sub hl [1, 0] rfl)
set_option maxHeartbeats 4000000 in
set_option maxRecDepth 100000 in
theorem c_X7_frame (l : Launch) (D : va_G) (cy ad : Nat → Nat) (L : List Nat) (sz : Nat) (hL : lr 20 34 L) (M : Mem)  (hV : vc_X7_frame M ) : Met l yX7_frame (Cond.code yX7_frame cX7_frame 1 (none) :: BG) ({ frames := 6, cells := 0, slots := 0, locals := 141 }) (va_Pc [.ref (ad 20)] (PW D cy ad L M sz)) (va_Qv (fun N => N = sp_X7_frame M) (OW D cy ad L sz) (fA ad L sz)) 0 0 (fA ad L sz) := by
  refine q_start (by decide) (Nat.le_of_ble_eq_true rfl) (fun p e s m below meth c H locs ls hsz hx hb hr hlocks hml hown hB hK hE hC hl => ?_)
  subst hsz
  have hown : s.vm.findClass "MazeBoardModel" = some m.cls := hown
  have hl : lv_has ls 1 [(0, .ref (ad 20))] := hl
  have J63 : ∀ (M10 : Mem) (H : Heap) (locs : List Loc) (ls : Array Slot) (hT : sp_X7_frame M = sp_X7_frame_B63 M10) (hC : Cx D cy ad R0 L (fA ad L s.heap.size) s M10 H locs) (hl : lv_has ls 1 []), W p l e ({ frames := 6, cells := 0, slots := 0, locals := 141 }) s m ([.ref (ad 20)] : List Value).toArray below meth c H locs 0 0 (MQ below (va_Qv (fun N => N = sp_X7_frame M) (OW D cy ad L s.heap.size) (fA ad L s.heap.size)) ([.ref (ad 20)] : List Value).toArray s 0 0 (fA ad L s.heap.size)) (F0 m 63 ls []) := by
    intro M10 H locs ls  hT hC hl
    have hT : sp_X7_frame M = M10 := hT
    exact q_retv hx hb hr hlocks hC hT.symm dX7_frame_63
  have J26 : ∀ (M5 : Mem) (H : Heap) (locs : List Loc) (ls : Array Slot) (hT : sp_X7_frame M = sp_X7_frame_B26 M5) (hV : vc_X7_frame_B26 M5) (hC : Cx D cy ad R0 L (fA ad L s.heap.size) s M5 H locs) (hl : lv_has ls 1 [(0, .ref (ad 20))]), W p l e ({ frames := 6, cells := 0, slots := 0, locals := 141 }) s m ([.ref (ad 20)] : List Value).toArray below meth c H locs 0 0 (MQ below (va_Qv (fun N => N = sp_X7_frame M) (OW D cy ad L s.heap.size) (fA ad L s.heap.size)) ([.ref (ad 20)] : List Value).toArray s 0 0 (fA ad L s.heap.size)) (F0 m 26 ls []) := by
    intro M5 H locs ls  hT hV hC hl
    have hT : sp_X7_frame M = sp_X7_frame_n4 (sp_X7_hear M5) := hT
    have hV : vc_X7_hear M5 ∧ (vc_X7_frame_n4 (sp_X7_hear M5)) := hV
    refine lv_aload_n hx hb dX7_frame_26 rfl (lv_at hl 0 rfl) ?_
    obtain ⟨v27, hV⟩ : vc_X7_hear M5 ∧ (vc_X7_frame_n4 (sp_X7_hear M5)) := hV
    refine q_Cv (q_V (own := "MazeBoardModel") (y := yX7_hear) (As := []) (rest := []) ⟨hx, hb, hml, hown, hB⟩ hK hE hC (c_X7_hear l D cy ad L H.size (hL.sub (by decide) (by decide)) M5  v27) rfl (hL 20 (by decide) (by decide)) rfl mw_4_16 mw_4_18 mw_0_45 mw_1_7 mw_4_19 rfl yd_X7_hear ⟨rfl, rfl⟩ ⟨Nat.le_of_ble_eq_true rfl, Nat.le_of_ble_eq_true rfl⟩ rfl hl.1 rfl (Nat.le_of_ble_eq_true rfl) dX7_frame_27 ⟨Nat.le_refl _, Nat.le_refl _⟩) hC (fun M6 H locs eM6 hC => ?_)
    have hT : sp_X7_frame M = sp_X7_frame_n4 M6 := by rw [eM6]; exact hT
    have hV : vc_X7_frame_n4 M6 := by rw [eM6]; exact hV
    refine lv_aload_n hx hb dX7_frame_30 rfl (lv_at hl 0 rfl) ?_
    refine lv_dup hx hb dX7_frame_31 rfl ?_
    refine q_geti (T := TX7) hx hb hB uw_X7 hown hK hC rfl (hL 20 (by decide) (by decide)) rfl 13 (by decide) rfl (hB _ mw_3_57) dX7_frame_32 ?_
    refine lv_iconst (v := 1) hx hb dX7_frame_35 (by decide) ?_
    refine lv_iadd hx hb dX7_frame_36 ?_
    refine q_puti (T := TX7) hx hb hB uw_X7 tyX7 tyX7_ok nmX7 hown hK hC rfl (hL 20 (by decide) (by decide)) rfl 13 (by decide) rfl (hB _ mw_3_57) rfl rfl rfl rfl dX7_frame_37 (fun H locs hC => ?_)
    obtain ⟨M7, eM7⟩ : ∃ z : Mem, z = wI M6 20 13 ((gI M6 20 13) + 1) := ⟨_, rfl⟩
    rw [← eM7] at hC
    have hT : sp_X7_frame M = sp_X7_frame_n3 M7 := by rw [eM7]; exact hT
    have hV : vc_X7_frame_n3 M7 := by rw [eM7]; exact hV
    refine lv_aload_n hx hb dX7_frame_40 rfl (lv_at hl 0 rfl) ?_
    refine lv_dup hx hb dX7_frame_41 rfl ?_
    refine q_geti (T := TX7) hx hb hB uw_X7 hown hK hC rfl (hL 20 (by decide) (by decide)) rfl 12 (by decide) rfl (hB _ mw_3_56) dX7_frame_42 ?_
    refine lv_iconst (v := 1) hx hb dX7_frame_45 (by decide) ?_
    refine lv_iadd hx hb dX7_frame_46 ?_
    refine q_puti (T := TX7) hx hb hB uw_X7 tyX7 tyX7_ok nmX7 hown hK hC rfl (hL 20 (by decide) (by decide)) rfl 12 (by decide) rfl (hB _ mw_3_56) rfl rfl rfl rfl dX7_frame_47 (fun H locs hC => ?_)
    obtain ⟨M8, eM8⟩ : ∃ z : Mem, z = wI M7 20 12 ((gI M7 20 12) + 1) := ⟨_, rfl⟩
    rw [← eM8] at hC
    have hT : sp_X7_frame M = sp_X7_frame_n2 M8 := by rw [eM8]; exact hT
    have hV : vc_X7_frame_n2 M8 := by rw [eM8]; exact hV
    refine lv_aload_n hx hb dX7_frame_50 rfl (lv_at hl 0 rfl) ?_
    refine q_geti (T := TX7) hx hb hB uw_X7 hown hK hC rfl (hL 20 (by decide) (by decide)) rfl 12 (by decide) rfl (hB _ mw_3_56) dX7_frame_51 ?_
    refine lv_bipush (v := 120) hx hb dX7_frame_54 (by decide) ?_
    refine lv_icmp_ne (tgt := 63) hx hb dX7_frame_56 (by decide) (fun c56 => ?_) (fun c56 => ?_)
    · have hT : sp_X7_frame M = sp_X7_frame_B63 M8 := hT.trans (if_neg c56)
      exact J63 M8 _ _ _  hT hC (lv_sub hl [] rfl)
    · have hT : sp_X7_frame M = sp_X7_frame_n1 (sp_X7_reset M8) := hT.trans (if_pos c56)
      have hV : vc_X7_reset M8 := iteT hV c56
      refine lv_aload_n hx hb dX7_frame_59 rfl (lv_at hl 0 rfl) ?_
      have v60 : vc_X7_reset M8 := hV
      refine q_Cv (q_V (own := "MazeBoardModel") (y := yX7_reset) (As := []) (rest := []) ⟨hx, hb, hml, hown, hB⟩ hK hE hC (c_X7_reset l D cy ad L H.size (hL.sub (by decide) (by decide)) M8  v60) rfl (hL 20 (by decide) (by decide)) rfl mw_4_27 mw_4_29 mw_0_47 mw_1_7 mw_4_30 rfl yd_X7_reset ⟨rfl, rfl⟩ ⟨Nat.le_of_ble_eq_true rfl, Nat.le_of_ble_eq_true rfl⟩ rfl hl.1 rfl (Nat.le_of_ble_eq_true rfl) dX7_frame_60 ⟨Nat.le_refl _, Nat.le_refl _⟩) hC (fun M9 H locs eM9 hC => ?_)
      have hT : sp_X7_frame M = sp_X7_frame_n1 M9 := by rw [eM9]; exact hT
      exact J63 M9 _ _ _  hT hC (lv_sub hl [] rfl)
  have hT : sp_X7_frame M = sp_X7_frame_n8 (wI M 20 28 0) := rfl
  have hV : vc_X7_frame_n8 (wI M 20 28 0) := hV
  refine lv_aload_n hx hb dX7_frame_0 rfl (lv_at hl 0 rfl) ?_
  refine lv_iconst (v := 0) hx hb dX7_frame_1 (by decide) ?_
  refine q_puti (T := TX7) hx hb hB uw_X7 tyX7 tyX7_ok nmX7 hown hK hC rfl (hL 20 (by decide) (by decide)) rfl 28 (by decide) rfl (hB _ mw_3_72) rfl rfl (by decide) (by decide) dX7_frame_2 (fun H locs hC => ?_)
  obtain ⟨M1, eM1⟩ : ∃ z : Mem, z = wI M 20 28 0 := ⟨_, rfl⟩
  rw [← eM1] at hC
  have hT : sp_X7_frame M = sp_X7_frame_n8 M1 := by rw [eM1]; exact hT
  have hV : vc_X7_frame_n8 M1 := by rw [eM1]; exact hV
  refine lv_aload_n hx hb dX7_frame_5 rfl (lv_at hl 0 rfl) ?_
  refine lv_iconst (v := 0) hx hb dX7_frame_6 (by decide) ?_
  refine q_puti (T := TX7) hx hb hB uw_X7 tyX7 tyX7_ok nmX7 hown hK hC rfl (hL 20 (by decide) (by decide)) rfl 29 (by decide) rfl (hB _ mw_3_73) rfl rfl (by decide) (by decide) dX7_frame_7 (fun H locs hC => ?_)
  obtain ⟨M2, eM2⟩ : ∃ z : Mem, z = wI M1 20 29 0 := ⟨_, rfl⟩
  rw [← eM2] at hC
  have hT : sp_X7_frame M = sp_X7_frame_n7 M2 := by rw [eM2]; exact hT
  have hV : vc_X7_frame_n7 M2 := by rw [eM2]; exact hV
  refine lv_aload_n hx hb dX7_frame_10 rfl (lv_at hl 0 rfl) ?_
  refine lv_iconst (v := 0) hx hb dX7_frame_11 (by decide) ?_
  refine q_puti (T := TX7) hx hb hB uw_X7 tyX7 tyX7_ok nmX7 hown hK hC rfl (hL 20 (by decide) (by decide)) rfl 30 (by decide) rfl (hB _ mw_3_74) rfl rfl (by decide) (by decide) dX7_frame_12 (fun H locs hC => ?_)
  obtain ⟨M3, eM3⟩ : ∃ z : Mem, z = wI M2 20 30 0 := ⟨_, rfl⟩
  rw [← eM3] at hC
  have hT : sp_X7_frame M = sp_X7_frame_n6 M3 := by rw [eM3]; exact hT
  have hV : vc_X7_frame_n6 M3 := by rw [eM3]; exact hV
  refine lv_aload_n hx hb dX7_frame_15 rfl (lv_at hl 0 rfl) ?_
  refine q_geti (T := TX7) hx hb hB uw_X7 hown hK hC rfl (hL 20 (by decide) (by decide)) rfl 3 (by decide) rfl (hB _ mw_3_47) dX7_frame_16 ?_
  refine lv_if_eq (tgt := 26) hx hb dX7_frame_19 (by decide) (fun c19 => ?_) (fun c19 => ?_)
  · have hT : sp_X7_frame M = sp_X7_frame_B26 M3 := hT.trans (if_pos c19)
    have hV : vc_X7_frame_B26 M3 := iteT hV c19
    exact J26 M3 _ _ _  hT hV hC (lv_sub hl [0] rfl)
  · have hT : sp_X7_frame M = sp_X7_frame_n5 (sp_X7_play M3) := hT.trans (if_neg c19)
    have hV : vc_X7_play M3 ∧ (vc_X7_frame_n5 (sp_X7_play M3)) := iteF hV c19
    refine lv_aload_n hx hb dX7_frame_22 rfl (lv_at hl 0 rfl) ?_
    obtain ⟨v23, hV⟩ : vc_X7_play M3 ∧ (vc_X7_frame_n5 (sp_X7_play M3)) := hV
    refine q_Cv (q_V (own := "MazeBoardModel") (y := yX7_play) (As := []) (rest := []) ⟨hx, hb, hml, hown, hB⟩ hK hE hC (c_X7_play l D cy ad L H.size (hL.sub (by decide) (by decide)) M3  v23) rfl (hL 20 (by decide) (by decide)) rfl mw_3_165 mw_3_167 mw_0_28 mw_1_7 mw_3_168 rfl yd_X7_play ⟨rfl, rfl⟩ ⟨Nat.le_of_ble_eq_true rfl, Nat.le_of_ble_eq_true rfl⟩ rfl hl.1 rfl (Nat.le_of_ble_eq_true rfl) dX7_frame_23 ⟨Nat.le_refl _, Nat.le_refl _⟩) hC (fun M4 H locs eM4 hC => ?_)
    have hT : sp_X7_frame M = sp_X7_frame_n5 M4 := by rw [eM4]; exact hT
    have hV : vc_X7_frame_n5 M4 := by rw [eM4]; exact hV
    exact J26 M4 _ _ _  hT hV hC (lv_sub hl [0] rfl)
set_option maxHeartbeats 4000000 in
set_option maxRecDepth 100000 in
theorem c_X7_coin (l : Launch) (D : va_G) (cy ad : Nat → Nat) (L : List Nat) (sz : Nat) (hL : lr 20 34 L) (M : Mem)  : Met l yX7_coin (Cond.code yX7_coin cX7_coin 1 (some .boolean) :: BG) ({ frames := 0, cells := 0, slots := 0, locals := 0 }) (va_Pc [.ref (ad 20)] (PW D cy ad L M sz)) (va_Qi (fun r N => r = (sp_X7_coin M).1 ∧ N = (sp_X7_coin M).2) (OW D cy ad L sz) (fA ad L sz)) 0 0 (fA ad L sz) := by
  refine q_start (by decide) (Nat.le_of_ble_eq_true rfl) (fun p e s m below meth c H locs ls hsz hx hb hr hlocks hml hown hB hK hE hC hl => ?_)
  subst hsz
  have hown : s.vm.findClass "MazeBoardModel" = some m.cls := hown
  have hl : lv_has ls 1 [(0, .ref (ad 20))] := hl
  have hT : sp_X7_coin M = if (gI M 20 2) = 9 then (0, M) else (sp_X7_coin_n1 (wI M 20 2 ((gI M 20 2) + 1))) := rfl
  refine lv_aload_n hx hb dX7_coin_0 rfl (lv_at hl 0 rfl) ?_
  refine q_geti (T := TX7) hx hb hB uw_X7 hown hK hC rfl (hL 20 (by decide) (by decide)) rfl 2 (by decide) rfl (hB _ mw_3_46) dX7_coin_1 ?_
  refine lv_bipush (v := 9) hx hb dX7_coin_4 (by decide) ?_
  refine lv_icmp_ne (tgt := 11) hx hb dX7_coin_6 (by decide) (fun c6 => ?_) (fun c6 => ?_)
  · have hT : sp_X7_coin M = sp_X7_coin_n1 (wI M 20 2 ((gI M 20 2) + 1)) := hT.trans (if_neg c6)
    refine lv_aload_n hx hb dX7_coin_11 rfl (lv_at hl 0 rfl) ?_
    refine lv_dup hx hb dX7_coin_12 rfl ?_
    refine q_geti (T := TX7) hx hb hB uw_X7 hown hK hC rfl (hL 20 (by decide) (by decide)) rfl 2 (by decide) rfl (hB _ mw_3_46) dX7_coin_13 ?_
    refine lv_iconst (v := 1) hx hb dX7_coin_16 (by decide) ?_
    refine lv_iadd hx hb dX7_coin_17 ?_
    refine q_puti (T := TX7) hx hb hB uw_X7 tyX7 tyX7_ok nmX7 hown hK hC rfl (hL 20 (by decide) (by decide)) rfl 2 (by decide) rfl (hB _ mw_3_46) rfl rfl rfl rfl dX7_coin_18 (fun H locs hC => ?_)
    obtain ⟨M1, eM1⟩ : ∃ z : Mem, z = wI M 20 2 ((gI M 20 2) + 1) := ⟨_, rfl⟩
    rw [← eM1] at hC
    have hT : sp_X7_coin M = sp_X7_coin_n1 M1 := by rw [eM1]; exact hT
    refine lv_iconst (v := 1) hx hb dX7_coin_21 (by decide) ?_
    exact q_retz hx hb hr hlocks hC (by decide) ⟨(congrArg Prod.fst hT).symm, (congrArg Prod.snd hT).symm⟩ dX7_coin_22
  · have hT : sp_X7_coin M = (0, M) := hT.trans (if_pos c6)
    refine lv_iconst (v := 0) hx hb dX7_coin_9 (by decide) ?_
    exact q_retz hx hb hr hlocks hC (by decide) ⟨(congrArg Prod.fst hT).symm, (congrArg Prod.snd hT).symm⟩ dX7_coin_10
set_option maxHeartbeats 4000000 in
set_option maxRecDepth 100000 in
theorem c_X7_start (l : Launch) (D : va_G) (cy ad : Nat → Nat) (L : List Nat) (sz : Nat) (hL : lr 20 34 L) (M : Mem)  (hV : vc_X7_start M ) : Met l yX7_start (Cond.code yX7_start cX7_start 1 (some .boolean) :: BG) ({ frames := 2, cells := 0, slots := 0, locals := 45 }) (va_Pc [.ref (ad 20)] (PW D cy ad L M sz)) (va_Qi (fun r N => r = (sp_X7_start M).1 ∧ N = (sp_X7_start M).2) (OW D cy ad L sz) (fA ad L sz)) 0 0 (fA ad L sz) := by
  refine q_start (by decide) (Nat.le_of_ble_eq_true rfl) (fun p e s m below meth c H locs ls hsz hx hb hr hlocks hml hown hB hK hE hC hl => ?_)
  subst hsz
  have hown : s.vm.findClass "MazeBoardModel" = some m.cls := hown
  have hl : lv_has ls 1 [(0, .ref (ad 20))] := hl
  have J14 : ∀  (H : Heap) (locs : List Loc) (ls : Array Slot) (hT : sp_X7_start M = sp_X7_start_B14 M) (hC : Cx D cy ad R0 L (fA ad L s.heap.size) s M H locs) (hl : lv_has ls 1 []), W p l e ({ frames := 2, cells := 0, slots := 0, locals := 45 }) s m ([.ref (ad 20)] : List Value).toArray below meth c H locs 0 0 (MQ below (va_Qi (fun r N => r = (sp_X7_start M).1 ∧ N = (sp_X7_start M).2) (OW D cy ad L s.heap.size) (fA ad L s.heap.size)) ([.ref (ad 20)] : List Value).toArray s 0 0 (fA ad L s.heap.size)) (F0 m 14 ls []) := by
    intro  H locs ls  hT hC hl
    have hT : sp_X7_start M = (0, M) := hT
    refine lv_iconst (v := 0) hx hb dX7_start_14 (by decide) ?_
    exact q_retz hx hb hr hlocks hC (by decide) ⟨(congrArg Prod.fst hT).symm, (congrArg Prod.snd hT).symm⟩ dX7_start_15
  have hT : sp_X7_start M = if (gI M 20 2) = 0 then (sp_X7_start_B14 M) else (if (gI M 20 3) = 0 then (sp_X7_start_n10 (wI M 20 2 ((gI M 20 2) - 1))) else (sp_X7_start_B14 M)) := rfl
  have hV : if (gI M 20 2) = 0 then True else (if (gI M 20 3) = 0 then (vc_X7_start_n10 (wI M 20 2 ((gI M 20 2) - 1))) else True) := hV
  refine lv_aload_n hx hb dX7_start_0 rfl (lv_at hl 0 rfl) ?_
  refine q_geti (T := TX7) hx hb hB uw_X7 hown hK hC rfl (hL 20 (by decide) (by decide)) rfl 2 (by decide) rfl (hB _ mw_3_46) dX7_start_1 ?_
  refine lv_if_eq (tgt := 14) hx hb dX7_start_4 (by decide) (fun c4 => ?_) (fun c4 => ?_)
  · have hT : sp_X7_start M = sp_X7_start_B14 M := hT.trans (if_pos c4)
    exact J14  _ _ _  hT hC (lv_sub hl [] rfl)
  · have hT : sp_X7_start M = if (gI M 20 3) = 0 then (sp_X7_start_n10 (wI M 20 2 ((gI M 20 2) - 1))) else (sp_X7_start_B14 M) := hT.trans (if_neg c4)
    have hV : if (gI M 20 3) = 0 then (vc_X7_start_n10 (wI M 20 2 ((gI M 20 2) - 1))) else True := iteF hV c4
    refine lv_aload_n hx hb dX7_start_7 rfl (lv_at hl 0 rfl) ?_
    refine q_geti (T := TX7) hx hb hB uw_X7 hown hK hC rfl (hL 20 (by decide) (by decide)) rfl 3 (by decide) rfl (hB _ mw_3_47) dX7_start_8 ?_
    refine lv_if_eq (tgt := 16) hx hb dX7_start_11 (by decide) (fun c11 => ?_) (fun c11 => ?_)
    · have hT : sp_X7_start M = sp_X7_start_n10 (wI M 20 2 ((gI M 20 2) - 1)) := hT.trans (if_pos c11)
      have hV : vc_X7_start_n10 (wI M 20 2 ((gI M 20 2) - 1)) := iteT hV c11
      refine lv_aload_n hx hb dX7_start_16 rfl (lv_at hl 0 rfl) ?_
      refine lv_dup hx hb dX7_start_17 rfl ?_
      refine q_geti (T := TX7) hx hb hB uw_X7 hown hK hC rfl (hL 20 (by decide) (by decide)) rfl 2 (by decide) rfl (hB _ mw_3_46) dX7_start_18 ?_
      refine lv_iconst (v := 1) hx hb dX7_start_21 (by decide) ?_
      refine lv_isub hx hb dX7_start_22 ?_
      refine q_puti (T := TX7) hx hb hB uw_X7 tyX7 tyX7_ok nmX7 hown hK hC rfl (hL 20 (by decide) (by decide)) rfl 2 (by decide) rfl (hB _ mw_3_46) rfl rfl rfl rfl dX7_start_23 (fun H locs hC => ?_)
      obtain ⟨M1, eM1⟩ : ∃ z : Mem, z = wI M 20 2 ((gI M 20 2) - 1) := ⟨_, rfl⟩
      rw [← eM1] at hC
      have hT : sp_X7_start M = sp_X7_start_n10 M1 := by rw [eM1]; exact hT
      have hV : vc_X7_start_n10 M1 := by rw [eM1]; exact hV
      refine lv_aload_n hx hb dX7_start_26 rfl (lv_at hl 0 rfl) ?_
      refine lv_iconst (v := 1) hx hb dX7_start_27 (by decide) ?_
      refine q_puti (T := TX7) hx hb hB uw_X7 tyX7 tyX7_ok nmX7 hown hK hC rfl (hL 20 (by decide) (by decide)) rfl 3 (by decide) rfl (hB _ mw_3_47) rfl rfl (by decide) (by decide) dX7_start_28 (fun H locs hC => ?_)
      obtain ⟨M2, eM2⟩ : ∃ z : Mem, z = wI M1 20 3 1 := ⟨_, rfl⟩
      rw [← eM2] at hC
      have hT : sp_X7_start M = sp_X7_start_n9 M2 := by rw [eM2]; exact hT
      have hV : vc_X7_start_n9 M2 := by rw [eM2]; exact hV
      refine lv_aload_n hx hb dX7_start_31 rfl (lv_at hl 0 rfl) ?_
      refine lv_iconst (v := 1) hx hb dX7_start_32 (by decide) ?_
      refine q_puti (T := TX7) hx hb hB uw_X7 tyX7 tyX7_ok nmX7 hown hK hC rfl (hL 20 (by decide) (by decide)) rfl 8 (by decide) rfl (hB _ mw_3_52) rfl rfl rfl rfl dX7_start_33 (fun H locs hC => ?_)
      obtain ⟨M3, eM3⟩ : ∃ z : Mem, z = wI M2 20 8 1 := ⟨_, rfl⟩
      rw [← eM3] at hC
      have hT : sp_X7_start M = sp_X7_start_n8 M3 := by rw [eM3]; exact hT
      have hV : vc_X7_start_n8 M3 := by rw [eM3]; exact hV
      refine lv_aload_n hx hb dX7_start_36 rfl (lv_at hl 0 rfl) ?_
      refine lv_iconst (v := 3) hx hb dX7_start_37 (by decide) ?_
      refine q_puti (T := TX7) hx hb hB uw_X7 tyX7 tyX7_ok nmX7 hown hK hC rfl (hL 20 (by decide) (by decide)) rfl 7 (by decide) rfl (hB _ mw_3_51) rfl rfl rfl rfl dX7_start_38 (fun H locs hC => ?_)
      obtain ⟨M4, eM4⟩ : ∃ z : Mem, z = wI M3 20 7 3 := ⟨_, rfl⟩
      rw [← eM4] at hC
      have hT : sp_X7_start M = sp_X7_start_n7 M4 := by rw [eM4]; exact hT
      have hV : vc_X7_start_n7 M4 := by rw [eM4]; exact hV
      refine lv_aload_n hx hb dX7_start_41 rfl (lv_at hl 0 rfl) ?_
      refine lv_iconst (v := 0) hx hb dX7_start_42 (by decide) ?_
      refine q_puti (T := TX7) hx hb hB uw_X7 tyX7 tyX7_ok nmX7 hown hK hC rfl (hL 20 (by decide) (by decide)) rfl 4 (by decide) rfl (hB _ mw_3_48) rfl rfl rfl rfl dX7_start_43 (fun H locs hC => ?_)
      obtain ⟨M5, eM5⟩ : ∃ z : Mem, z = wI M4 20 4 0 := ⟨_, rfl⟩
      rw [← eM5] at hC
      have hT : sp_X7_start M = sp_X7_start_n6 M5 := by rw [eM5]; exact hT
      have hV : vc_X7_start_n6 M5 := by rw [eM5]; exact hV
      refine lv_aload_n hx hb dX7_start_46 rfl (lv_at hl 0 rfl) ?_
      refine lv_iconst (v := 0) hx hb dX7_start_47 (by decide) ?_
      refine q_puti (T := TX7) hx hb hB uw_X7 tyX7 tyX7_ok nmX7 hown hK hC rfl (hL 20 (by decide) (by decide)) rfl 6 (by decide) rfl (hB _ mw_3_50) rfl rfl (by decide) (by decide) dX7_start_48 (fun H locs hC => ?_)
      obtain ⟨M6, eM6⟩ : ∃ z : Mem, z = wI M5 20 6 0 := ⟨_, rfl⟩
      rw [← eM6] at hC
      have hT : sp_X7_start M = sp_X7_start_n5 M6 := by rw [eM6]; exact hT
      have hV : vc_X7_start_n5 M6 := by rw [eM6]; exact hV
      refine lv_aload_n hx hb dX7_start_51 rfl (lv_at hl 0 rfl) ?_
      refine lv_iconst (v := 0) hx hb dX7_start_52 (by decide) ?_
      refine q_puti (T := TX7) hx hb hB uw_X7 tyX7 tyX7_ok nmX7 hown hK hC rfl (hL 20 (by decide) (by decide)) rfl 11 (by decide) rfl (hB _ mw_3_55) rfl rfl rfl rfl dX7_start_53 (fun H locs hC => ?_)
      obtain ⟨M7, eM7⟩ : ∃ z : Mem, z = wI M6 20 11 0 := ⟨_, rfl⟩
      rw [← eM7] at hC
      have hT : sp_X7_start M = sp_X7_start_n4 M7 := by rw [eM7]; exact hT
      have hV : vc_X7_start_n4 M7 := by rw [eM7]; exact hV
      refine lv_aload_n hx hb dX7_start_56 rfl (lv_at hl 0 rfl) ?_
      refine lv_iconst (v := 1) hx hb dX7_start_57 (by decide) ?_
      refine q_puti (T := TX7) hx hb hB uw_X7 tyX7 tyX7_ok nmX7 hown hK hC rfl (hL 20 (by decide) (by decide)) rfl 14 (by decide) rfl (hB _ mw_3_58) rfl rfl rfl rfl dX7_start_58 (fun H locs hC => ?_)
      obtain ⟨M8, eM8⟩ : ∃ z : Mem, z = wI M7 20 14 1 := ⟨_, rfl⟩
      rw [← eM8] at hC
      have hT : sp_X7_start M = sp_X7_start_n3 M8 := by rw [eM8]; exact hT
      have hV : vc_X7_start_n3 M8 := by rw [eM8]; exact hV
      refine lv_aload_n hx hb dX7_start_61 rfl (lv_at hl 0 rfl) ?_
      obtain ⟨v62, hV⟩ : vc_X7_fill M8 ∧ (vc_X7_start_n2 (sp_X7_fill M8)) := hV
      refine q_Cv (q_V (own := "MazeBoardModel") (y := yX7_fill) (As := []) (rest := []) ⟨hx, hb, hml, hown, hB⟩ hK hE hC (c_X7_fill l D cy ad L H.size (hL.sub (by decide) (by decide)) M8  v62) rfl (hL 20 (by decide) (by decide)) rfl mw_3_32 mw_3_34 mw_0_24 mw_1_7 mw_3_35 rfl yd_X7_fill ⟨rfl, rfl⟩ ⟨Nat.le_of_ble_eq_true rfl, Nat.le_of_ble_eq_true rfl⟩ rfl hl.1 rfl (Nat.le_of_ble_eq_true rfl) dX7_start_62 ⟨Nat.le_refl _, Nat.le_refl _⟩) hC (fun M9 H locs eM9 hC => ?_)
      have hT : sp_X7_start M = sp_X7_start_n2 M9 := by rw [eM9]; exact hT
      have hV : vc_X7_start_n2 M9 := by rw [eM9]; exact hV
      refine lv_aload_n hx hb dX7_start_65 rfl (lv_at hl 0 rfl) ?_
      have v66 : vc_X7_place M9 := hV
      refine q_Cv (q_V (own := "MazeBoardModel") (y := yX7_place) (As := []) (rest := []) ⟨hx, hb, hml, hown, hB⟩ hK hE hC (c_X7_place l D cy ad L H.size (hL.sub (by decide) (by decide)) M9  v66) rfl (hL 20 (by decide) (by decide)) rfl mw_3_36 mw_3_38 mw_0_25 mw_1_7 mw_3_39 rfl yd_X7_place ⟨rfl, rfl⟩ ⟨Nat.le_of_ble_eq_true rfl, Nat.le_of_ble_eq_true rfl⟩ rfl hl.1 rfl (Nat.le_of_ble_eq_true rfl) dX7_start_66 ⟨Nat.le_refl _, Nat.le_refl _⟩) hC (fun M10 H locs eM10 hC => ?_)
      have hT : sp_X7_start M = sp_X7_start_n1 M10 := by rw [eM10]; exact hT
      refine lv_iconst (v := 1) hx hb dX7_start_69 (by decide) ?_
      exact q_retz hx hb hr hlocks hC (by decide) ⟨(congrArg Prod.fst hT).symm, (congrArg Prod.snd hT).symm⟩ dX7_start_70
    · have hT : sp_X7_start M = sp_X7_start_B14 M := hT.trans (if_neg c11)
      exact J14  _ _ _  hT hC (lv_sub hl [] rfl)
set_option maxHeartbeats 4000000 in
set_option maxRecDepth 100000 in
theorem c_X7_stick (l : Launch) (D : va_G) (cy ad : Nat → Nat) (L : List Nat) (sz : Nat) (hL : lr 20 34 L) (M : Mem) (a1 : Int32) : Met l yX7_stick (Cond.code yX7_stick cX7_stick 2 (some .boolean) :: BG) ({ frames := 0, cells := 0, slots := 0, locals := 0 }) (va_Pc [.ref (ad 20), .int a1] (PW D cy ad L M sz)) (va_Qi (fun r N => r = (sp_X7_stick M a1).1 ∧ N = (sp_X7_stick M a1).2) (OW D cy ad L sz) (fA ad L sz)) 0 0 (fA ad L sz) := by
  refine q_start (by decide) (Nat.le_of_ble_eq_true rfl) (fun p e s m below meth c H locs ls hsz hx hb hr hlocks hml hown hB hK hE hC hl => ?_)
  subst hsz
  have hown : s.vm.findClass "MazeBoardModel" = some m.cls := hown
  have hl : lv_has ls 2 [(0, .ref (ad 20)), (1, .int a1)] := hl
  have J10 : ∀  (H : Heap) (locs : List Loc) (ls : Array Slot) (hT : sp_X7_stick M a1 = sp_X7_stick_B10 M) (hC : Cx D cy ad R0 L (fA ad L s.heap.size) s M H locs) (hl : lv_has ls 2 []), W p l e ({ frames := 0, cells := 0, slots := 0, locals := 0 }) s m ([.ref (ad 20), .int a1] : List Value).toArray below meth c H locs 0 0 (MQ below (va_Qi (fun r N => r = (sp_X7_stick M a1).1 ∧ N = (sp_X7_stick M a1).2) (OW D cy ad L s.heap.size) (fA ad L s.heap.size)) ([.ref (ad 20), .int a1] : List Value).toArray s 0 0 (fA ad L s.heap.size)) (F0 m 10 ls []) := by
    intro  H locs ls  hT hC hl
    have hT : sp_X7_stick M a1 = (0, M) := hT
    refine lv_iconst (v := 0) hx hb dX7_stick_10 (by decide) ?_
    exact q_retz hx hb hr hlocks hC (by decide) ⟨(congrArg Prod.fst hT).symm, (congrArg Prod.snd hT).symm⟩ dX7_stick_11
  have hT : sp_X7_stick M a1 = if a1 < (-1) then (sp_X7_stick_B10 M) else (if a1 ≤ 3 then (sp_X7_stick_n1 (wI M 20 15 a1)) else (sp_X7_stick_B10 M)) := rfl
  refine lv_iload_n hx hb dX7_stick_0 rfl (lv_at hl 1 rfl) ?_
  refine lv_iconst (v := (-1)) hx hb dX7_stick_1 (by decide) ?_
  refine lv_icmp_lt (tgt := 10) hx hb dX7_stick_2 (by decide) (fun c2 => ?_) (fun c2 => ?_)
  · have hT : sp_X7_stick M a1 = sp_X7_stick_B10 M := hT.trans (if_pos c2)
    exact J10  _ _ _  hT hC (lv_sub hl [] rfl)
  · have hT : sp_X7_stick M a1 = if a1 ≤ 3 then (sp_X7_stick_n1 (wI M 20 15 a1)) else (sp_X7_stick_B10 M) := hT.trans (if_neg c2)
    refine lv_iload_n hx hb dX7_stick_5 rfl (lv_at hl 1 rfl) ?_
    refine lv_iconst (v := 3) hx hb dX7_stick_6 (by decide) ?_
    refine lv_icmp_le (tgt := 12) hx hb dX7_stick_7 (by decide) (fun c7 => ?_) (fun c7 => ?_)
    · have hT : sp_X7_stick M a1 = sp_X7_stick_n1 (wI M 20 15 a1) := hT.trans (if_pos c7)
      refine lv_aload_n hx hb dX7_stick_12 rfl (lv_at hl 0 rfl) ?_
      refine lv_iload_n hx hb dX7_stick_13 rfl (lv_at hl 1 rfl) ?_
      refine q_puti (T := TX7) hx hb hB uw_X7 tyX7 tyX7_ok nmX7 hown hK hC rfl (hL 20 (by decide) (by decide)) rfl 15 (by decide) rfl (hB _ mw_3_59) rfl rfl rfl rfl dX7_stick_14 (fun H locs hC => ?_)
      obtain ⟨M1, eM1⟩ : ∃ z : Mem, z = wI M 20 15 a1 := ⟨_, rfl⟩
      rw [← eM1] at hC
      have hT : sp_X7_stick M a1 = sp_X7_stick_n1 M1 := by rw [eM1]; exact hT
      refine lv_iconst (v := 1) hx hb dX7_stick_17 (by decide) ?_
      exact q_retz hx hb hr hlocks hC (by decide) ⟨(congrArg Prod.fst hT).symm, (congrArg Prod.snd hT).symm⟩ dX7_stick_18
    · have hT : sp_X7_stick M a1 = sp_X7_stick_B10 M := hT.trans (if_neg c7)
      exact J10  _ _ _  hT hC (lv_sub hl [] rfl)
set_option maxHeartbeats 4000000 in
set_option maxRecDepth 100000 in
theorem c_X7_kick (l : Launch) (D : va_G) (cy ad : Nat → Nat) (L : List Nat) (sz : Nat) (hL : lr 20 34 L) (M : Mem)  : Met l yX7_kick (Cond.code yX7_kick cX7_kick 1 (none) :: BG) ({ frames := 0, cells := 0, slots := 0, locals := 0 }) (va_Pc [.ref (ad 20)] (PW D cy ad L M sz)) (va_Qv (fun N => N = sp_X7_kick M) (OW D cy ad L sz) (fA ad L sz)) 0 0 (fA ad L sz) := by
  refine q_start (by decide) (Nat.le_of_ble_eq_true rfl) (fun p e s m below meth c H locs ls hsz hx hb hr hlocks hml hown hB hK hE hC hl => ?_)
  subst hsz
  have hown : s.vm.findClass "MazeBoardModel" = some m.cls := hown
  have hl : lv_has ls 1 [(0, .ref (ad 20))] := hl
  have hT : sp_X7_kick M = sp_X7_kick_n1 (wI M 20 12 0) := rfl
  refine lv_aload_n hx hb dX7_kick_0 rfl (lv_at hl 0 rfl) ?_
  refine lv_iconst (v := 0) hx hb dX7_kick_1 (by decide) ?_
  refine q_puti (T := TX7) hx hb hB uw_X7 tyX7 tyX7_ok nmX7 hown hK hC rfl (hL 20 (by decide) (by decide)) rfl 12 (by decide) rfl (hB _ mw_3_56) rfl rfl rfl rfl dX7_kick_2 (fun H locs hC => ?_)
  obtain ⟨M1, eM1⟩ : ∃ z : Mem, z = wI M 20 12 0 := ⟨_, rfl⟩
  rw [← eM1] at hC
  have hT : sp_X7_kick M = sp_X7_kick_n1 M1 := by rw [eM1]; exact hT
  exact q_retv hx hb hr hlocks hC hT.symm dX7_kick_5
set_option maxHeartbeats 4000000 in
set_option maxRecDepth 100000 in
theorem c_X7_frames (l : Launch) (D : va_G) (cy ad : Nat → Nat) (L : List Nat) (sz : Nat) (hL : lr 20 34 L) (M : Mem) (a1 : Int32) (hV : vc_X7_frames M a1) : Met l yX7_frames (Cond.code yX7_frames cX7_frames 3 (some .int) :: BG) ({ frames := 7, cells := 0, slots := 0, locals := 161 }) (va_Pc [.ref (ad 20), .int a1] (PW D cy ad L M sz)) (va_Qi (fun r N => r = (sp_X7_frames M a1).1 ∧ N = (sp_X7_frames M a1).2) (OW D cy ad L sz) (fA ad L sz)) 0 0 (fA ad L sz) := by
  refine q_start (by decide) (Nat.le_of_ble_eq_true rfl) (fun p e s m below meth c H locs ls hsz hx hb hr hlocks hml hown hB hK hE hC hl => ?_)
  subst hsz
  have hown : s.vm.findClass "MazeBoardModel" = some m.cls := hown
  have hl : lv_has ls 3 [(0, .ref (ad 20)), (1, .int a1)] := hl
  have J15 : ∀ (n : Nat) (x1 : Int32) (M2 : Mem) (H : Heap) (locs : List Loc) (ls : Array Slot) (hT : sp_X7_frames M a1 = sp_X7_frames_B15 n a1 x1 M2) (hV : vc_X7_frames_B15 n a1 x1 M2) (hC : Cx D cy ad R0 L (fA ad L s.heap.size) s M2 H locs) (hl : lv_has ls 3 [(0, .ref (ad 20)), (1, .int a1), (2, .int x1)]), W p l e ({ frames := 7, cells := 0, slots := 0, locals := 161 }) s m ([.ref (ad 20), .int a1] : List Value).toArray below meth c H locs 0 0 (MQ below (va_Qi (fun r N => r = (sp_X7_frames M a1).1 ∧ N = (sp_X7_frames M a1).2) (OW D cy ad L s.heap.size) (fA ad L s.heap.size)) ([.ref (ad 20), .int a1] : List Value).toArray s 0 0 (fA ad L s.heap.size)) (F0 m 15 ls []) := by
    intro n
    induction n with
    | zero => intro x1 M2 H locs ls  hT hV; exact hV.elim
    | succ n ih =>
      intro x1 M2 H locs ls  hT hV hC hl
      have hT : sp_X7_frames M a1 = if a1 ≤ x1 then (a1, M2) else (sp_X7_frames_n2 (sp_X7_frames_B15 n) a1 x1 (sp_X7_frame M2)) := hT
      have hV : if a1 ≤ x1 then True else (vc_X7_frame M2 ∧ (vc_X7_frames_n2 (vc_X7_frames_B15 n) a1 x1 (sp_X7_frame M2))) := hV
      refine lv_iload_n hx hb dX7_frames_15 rfl (lv_at hl 2 rfl) ?_
      refine lv_iload_n hx hb dX7_frames_16 rfl (lv_at hl 1 rfl) ?_
      refine lv_icmp_ge (tgt := 30) hx hb dX7_frames_17 (by decide) (fun c17 => ?_) (fun c17 => ?_)
      · have hT : sp_X7_frames M a1 = (a1, M2) := hT.trans (if_pos c17)
        refine lv_iload_n hx hb dX7_frames_30 rfl (lv_at hl 1 rfl) ?_
        exact q_reti hx hb hr hlocks hC ⟨(congrArg Prod.fst hT).symm, (congrArg Prod.snd hT).symm⟩ dX7_frames_31
      · have hT : sp_X7_frames M a1 = sp_X7_frames_n2 (sp_X7_frames_B15 n) a1 x1 (sp_X7_frame M2) := hT.trans (if_neg c17)
        have hV : vc_X7_frame M2 ∧ (vc_X7_frames_n2 (vc_X7_frames_B15 n) a1 x1 (sp_X7_frame M2)) := iteF hV c17
        refine lv_aload_n hx hb dX7_frames_20 rfl (lv_at hl 0 rfl) ?_
        obtain ⟨v21, hV⟩ : vc_X7_frame M2 ∧ (vc_X7_frames_n2 (vc_X7_frames_B15 n) a1 x1 (sp_X7_frame M2)) := hV
        refine q_Cv (q_V (own := "MazeBoardModel") (y := yX7_frame) (As := []) (rest := []) ⟨hx, hb, hml, hown, hB⟩ hK hE hC (c_X7_frame l D cy ad L H.size (hL.sub (by decide) (by decide)) M2  v21) rfl (hL 20 (by decide) (by decide)) rfl mw_3_161 mw_3_163 mw_0_27 mw_1_7 mw_3_164 rfl yd_X7_frame ⟨rfl, rfl⟩ ⟨Nat.le_of_ble_eq_true rfl, Nat.le_of_ble_eq_true rfl⟩ rfl hl.1 rfl (Nat.le_of_ble_eq_true rfl) dX7_frames_21 ⟨Nat.le_refl _, Nat.le_refl _⟩) hC (fun M3 H locs eM3 hC => ?_)
        have hT : sp_X7_frames M a1 = sp_X7_frames_n2 (sp_X7_frames_B15 n) a1 x1 M3 := by rw [eM3]; exact hT
        have hV : vc_X7_frames_n2 (vc_X7_frames_B15 n) a1 x1 M3 := by rw [eM3]; exact hV
        obtain ⟨x4, ex4⟩ : ∃ z : Int32, z = x1 + 1 := ⟨_, rfl⟩
        have hT : sp_X7_frames M a1 = sp_X7_frames_n1 (sp_X7_frames_B15 n) a1 M3 x4 := by rw [ex4]; exact hT
        have hV : vc_X7_frames_n1 (vc_X7_frames_B15 n) a1 M3 x4 := by rw [ex4]; exact hV
        refine lv_iinc (v := x4) (lv' := [(2, .int x4), (0, .ref (ad 20)), (1, .int a1)]) hx hb dX7_frames_24 hl (k := 2) rfl (by rw [ex4]; rfl) (by decide) rfl (fun ls hl => ?_)
        refine lv_goto (tgt := 15) hx hb dX7_frames_27 (by decide) ?_
        exact ih x4 M3 _ _ _  hT hV hC (lv_sub hl [1, 2, 0] rfl)
  have J11 : ∀  (H : Heap) (locs : List Loc) (ls : Array Slot) (hT : sp_X7_frames M a1 = sp_X7_frames_B11 M) (hC : Cx D cy ad R0 L (fA ad L s.heap.size) s M H locs) (hl : lv_has ls 3 []), W p l e ({ frames := 7, cells := 0, slots := 0, locals := 161 }) s m ([.ref (ad 20), .int a1] : List Value).toArray below meth c H locs 0 0 (MQ below (va_Qi (fun r N => r = (sp_X7_frames M a1).1 ∧ N = (sp_X7_frames M a1).2) (OW D cy ad L s.heap.size) (fA ad L s.heap.size)) ([.ref (ad 20), .int a1] : List Value).toArray s 0 0 (fA ad L s.heap.size)) (F0 m 11 ls []) := by
    intro  H locs ls  hT hC hl
    have hT : sp_X7_frames M a1 = ((-1), M) := hT
    refine lv_iconst (v := (-1)) hx hb dX7_frames_11 (by decide) ?_
    exact q_reti hx hb hr hlocks hC ⟨(congrArg Prod.fst hT).symm, (congrArg Prod.snd hT).symm⟩ dX7_frames_12
  have hT : sp_X7_frames M a1 = if a1 < 1 then (sp_X7_frames_B11 M) else (if a1 ≤ 60 then (sp_X7_frames_B15 62 a1 0 M) else (sp_X7_frames_B11 M)) := rfl
  have hV : if a1 < 1 then True else (if a1 ≤ 60 then vc_X7_frames_B15 62 a1 0 M else True) := hV
  refine lv_iload_n hx hb dX7_frames_0 rfl (lv_at hl 1 rfl) ?_
  refine lv_iconst (v := 1) hx hb dX7_frames_1 (by decide) ?_
  refine lv_icmp_lt (tgt := 11) hx hb dX7_frames_2 (by decide) (fun c2 => ?_) (fun c2 => ?_)
  · have hT : sp_X7_frames M a1 = sp_X7_frames_B11 M := hT.trans (if_pos c2)
    exact J11  _ _ _  hT hC (lv_sub hl [] rfl)
  · have hT : sp_X7_frames M a1 = if a1 ≤ 60 then (sp_X7_frames_B15 62 a1 0 M) else (sp_X7_frames_B11 M) := hT.trans (if_neg c2)
    have hV : if a1 ≤ 60 then vc_X7_frames_B15 62 a1 0 M else True := iteF hV c2
    refine lv_iload_n hx hb dX7_frames_5 rfl (lv_at hl 1 rfl) ?_
    refine lv_bipush (v := 60) hx hb dX7_frames_6 (by decide) ?_
    refine lv_icmp_le (tgt := 13) hx hb dX7_frames_8 (by decide) (fun c8 => ?_) (fun c8 => ?_)
    · have hT : sp_X7_frames M a1 = sp_X7_frames_B15 62 a1 0 M := hT.trans (if_pos c8)
      have hV : vc_X7_frames_B15 62 a1 0 M := iteT hV c8
      refine lv_iconst (v := 0) hx hb dX7_frames_13 (by decide) ?_
      refine lv_istore_n (lv' := [(2, .int 0), (0, .ref (ad 20)), (1, .int a1)]) hx hb dX7_frames_14 rfl hl (by decide) rfl (fun ls hl => ?_)
      exact J15 62 0 M _ _ _  hT hV hC (lv_sub hl [1, 2, 0] rfl)
    · have hT : sp_X7_frames M a1 = sp_X7_frames_B11 M := hT.trans (if_neg c8)
      exact J11  _ _ _  hT hC (lv_sub hl [] rfl)
set_option maxHeartbeats 4000000 in
set_option maxRecDepth 100000 in
theorem c_X7_look (l : Launch) (D : va_G) (cy ad : Nat → Nat) (L : List Nat) (sz : Nat) (hL : lr 20 34 L) (M : Mem) (a1 : Int32) (hV : vc_X7_look M a1) : Met l yX7_look (Cond.code yX7_look cX7_look 2 (some .int) :: BG) ({ frames := 1, cells := 0, slots := 0, locals := 22 }) (va_Pc [.ref (ad 20), .int a1] (PW D cy ad L M sz)) (va_Qi (fun r N => r = sp_X7_look M a1 ∧ N = M) (OW D cy ad L sz) (fA ad L sz)) 0 0 (fA ad L sz) := by
  refine q_start (by decide) (Nat.le_of_ble_eq_true rfl) (fun p e s m below meth c H locs ls hsz hx hb hr hlocks hml hown hB hK hE hC hl => ?_)
  subst hsz
  have hown : s.vm.findClass "MazeBoardModel" = some m.cls := hown
  have hl : lv_has ls 2 [(0, .ref (ad 20)), (1, .int a1)] := hl
  have J164 : ∀ (x3 : Int32) (H : Heap) (locs : List Loc) (ls : Array Slot) (hT : sp_X7_look M a1 = sp_X7_look_B164 x3) (hC : Cx D cy ad R0 L (fA ad L s.heap.size) s M H locs) (hl : lv_has ls 2 []), W p l e ({ frames := 1, cells := 0, slots := 0, locals := 22 }) s m ([.ref (ad 20), .int a1] : List Value).toArray below meth c H locs 0 0 (MQ below (va_Qi (fun r N => r = sp_X7_look M a1 ∧ N = M) (OW D cy ad L s.heap.size) (fA ad L s.heap.size)) ([.ref (ad 20), .int a1] : List Value).toArray s 0 0 (fA ad L s.heap.size)) (F0 m 164 ls [.int x3]) := by
    intro x3 H locs ls  hT hC hl
    have hT : sp_X7_look M a1 = x3 := hT
    exact q_reti hx hb hr hlocks hC ⟨hT.symm, rfl⟩ dX7_look_164
  have J123 : ∀ (x2 : Int32) (H : Heap) (locs : List Loc) (ls : Array Slot) (hT : sp_X7_look M a1 = sp_X7_look_B123 x2) (hC : Cx D cy ad R0 L (fA ad L s.heap.size) s M H locs) (hl : lv_has ls 2 []), W p l e ({ frames := 1, cells := 0, slots := 0, locals := 22 }) s m ([.ref (ad 20), .int a1] : List Value).toArray below meth c H locs 0 0 (MQ below (va_Qi (fun r N => r = sp_X7_look M a1 ∧ N = M) (OW D cy ad L s.heap.size) (fA ad L s.heap.size)) ([.ref (ad 20), .int a1] : List Value).toArray s 0 0 (fA ad L s.heap.size)) (F0 m 123 ls [.int x2]) := by
    intro x2 H locs ls  hT hC hl
    have hT : sp_X7_look M a1 = x2 := hT
    exact q_reti hx hb hr hlocks hC ⟨hT.symm, rfl⟩ dX7_look_123
  have J86 : ∀ (x1 : Int32) (H : Heap) (locs : List Loc) (ls : Array Slot) (hT : sp_X7_look M a1 = sp_X7_look_B86 x1) (hC : Cx D cy ad R0 L (fA ad L s.heap.size) s M H locs) (hl : lv_has ls 2 []), W p l e ({ frames := 1, cells := 0, slots := 0, locals := 22 }) s m ([.ref (ad 20), .int a1] : List Value).toArray below meth c H locs 0 0 (MQ below (va_Qi (fun r N => r = sp_X7_look M a1 ∧ N = M) (OW D cy ad L s.heap.size) (fA ad L s.heap.size)) ([.ref (ad 20), .int a1] : List Value).toArray s 0 0 (fA ad L s.heap.size)) (F0 m 86 ls [.int x1]) := by
    intro x1 H locs ls  hT hC hl
    have hT : sp_X7_look M a1 = x1 := hT
    exact q_reti hx hb hr hlocks hC ⟨hT.symm, rfl⟩ dX7_look_86
  have hT : sp_X7_look M a1 = if 6 ≤ a1 then (if 9 ≤ a1 then (if a1 = 9 then (sp_X7_look_B164 (gI M 20 11)) else (if a1 = 10 then (sp_X7_look_B164 (gI M 20 12)) else (if a1 = 11 then (sp_X7_look_B164 (gI M 20 13)) else (sp_X7_look_B164 (-1))))) else (if a1 = 6 then (sp_X7_look_B123 (sp_X7_left M)) else (if a1 = 7 then (sp_X7_look_B123 (gI M 20 9)) else (sp_X7_look_B123 (gI M 20 10))))) else (if a1 = 0 then (if (gI M 20 3) = 0 then (sp_X7_look_B86 0) else (sp_X7_look_B86 1)) else (if a1 = 1 then (sp_X7_look_B86 (gI M 20 4)) else (if a1 = 2 then (sp_X7_look_B86 (gI M 20 5)) else (if a1 = 3 then (sp_X7_look_B86 (gI M 20 7)) else (if a1 = 4 then (sp_X7_look_B86 (gI M 20 8)) else (if a1 = 5 then (sp_X7_look_B86 (gI M 20 2)) else (sp_X7_look_B86 (-1)))))))) := rfl
  have hV : if 6 ≤ a1 then (if 9 ≤ a1 then True else (if a1 = 6 then vc_X7_left M else True)) else True := hV
  refine lv_iload_n hx hb dX7_look_0 rfl (lv_at hl 1 rfl) ?_
  refine lv_bipush (v := 6) hx hb dX7_look_1 (by decide) ?_
  refine lv_icmp_ge (tgt := 87) hx hb dX7_look_3 (by decide) (fun c3 => ?_) (fun c3 => ?_)
  · have hT : sp_X7_look M a1 = if 9 ≤ a1 then (if a1 = 9 then (sp_X7_look_B164 (gI M 20 11)) else (if a1 = 10 then (sp_X7_look_B164 (gI M 20 12)) else (if a1 = 11 then (sp_X7_look_B164 (gI M 20 13)) else (sp_X7_look_B164 (-1))))) else (if a1 = 6 then (sp_X7_look_B123 (sp_X7_left M)) else (if a1 = 7 then (sp_X7_look_B123 (gI M 20 9)) else (sp_X7_look_B123 (gI M 20 10)))) := hT.trans (if_pos c3)
    have hV : if 9 ≤ a1 then True else (if a1 = 6 then vc_X7_left M else True) := iteT hV c3
    refine lv_iload_n hx hb dX7_look_87 rfl (lv_at hl 1 rfl) ?_
    refine lv_bipush (v := 9) hx hb dX7_look_88 (by decide) ?_
    refine lv_icmp_ge (tgt := 124) hx hb dX7_look_90 (by decide) (fun c90 => ?_) (fun c90 => ?_)
    · have hT : sp_X7_look M a1 = if a1 = 9 then (sp_X7_look_B164 (gI M 20 11)) else (if a1 = 10 then (sp_X7_look_B164 (gI M 20 12)) else (if a1 = 11 then (sp_X7_look_B164 (gI M 20 13)) else (sp_X7_look_B164 (-1)))) := hT.trans (if_pos c90)
      refine lv_iload_n hx hb dX7_look_124 rfl (lv_at hl 1 rfl) ?_
      refine lv_bipush (v := 9) hx hb dX7_look_125 (by decide) ?_
      refine lv_icmp_ne (tgt := 137) hx hb dX7_look_127 (by decide) (fun c127 => ?_) (fun c127 => ?_)
      · have hT : sp_X7_look M a1 = if a1 = 10 then (sp_X7_look_B164 (gI M 20 12)) else (if a1 = 11 then (sp_X7_look_B164 (gI M 20 13)) else (sp_X7_look_B164 (-1))) := hT.trans (if_neg c127)
        refine lv_iload_n hx hb dX7_look_137 rfl (lv_at hl 1 rfl) ?_
        refine lv_bipush (v := 10) hx hb dX7_look_138 (by decide) ?_
        refine lv_icmp_ne (tgt := 150) hx hb dX7_look_140 (by decide) (fun c140 => ?_) (fun c140 => ?_)
        · have hT : sp_X7_look M a1 = if a1 = 11 then (sp_X7_look_B164 (gI M 20 13)) else (sp_X7_look_B164 (-1)) := hT.trans (if_neg c140)
          refine lv_iload_n hx hb dX7_look_150 rfl (lv_at hl 1 rfl) ?_
          refine lv_bipush (v := 11) hx hb dX7_look_151 (by decide) ?_
          refine lv_icmp_ne (tgt := 163) hx hb dX7_look_153 (by decide) (fun c153 => ?_) (fun c153 => ?_)
          · have hT : sp_X7_look M a1 = sp_X7_look_B164 (-1) := hT.trans (if_neg c153)
            refine lv_iconst (v := (-1)) hx hb dX7_look_163 (by decide) ?_
            exact J164 (-1) _ _ _  hT hC (lv_sub hl [] rfl)
          · have hT : sp_X7_look M a1 = sp_X7_look_B164 (gI M 20 13) := hT.trans (if_pos c153)
            refine lv_aload_n hx hb dX7_look_156 rfl (lv_at hl 0 rfl) ?_
            refine q_geti (T := TX7) hx hb hB uw_X7 hown hK hC rfl (hL 20 (by decide) (by decide)) rfl 13 (by decide) rfl (hB _ mw_3_57) dX7_look_157 ?_
            refine lv_goto (tgt := 164) hx hb dX7_look_160 (by decide) ?_
            exact J164 (gI M 20 13) _ _ _  hT hC (lv_sub hl [] rfl)
        · have hT : sp_X7_look M a1 = sp_X7_look_B164 (gI M 20 12) := hT.trans (if_pos c140)
          refine lv_aload_n hx hb dX7_look_143 rfl (lv_at hl 0 rfl) ?_
          refine q_geti (T := TX7) hx hb hB uw_X7 hown hK hC rfl (hL 20 (by decide) (by decide)) rfl 12 (by decide) rfl (hB _ mw_3_56) dX7_look_144 ?_
          refine lv_goto (tgt := 164) hx hb dX7_look_147 (by decide) ?_
          exact J164 (gI M 20 12) _ _ _  hT hC (lv_sub hl [] rfl)
      · have hT : sp_X7_look M a1 = sp_X7_look_B164 (gI M 20 11) := hT.trans (if_pos c127)
        refine lv_aload_n hx hb dX7_look_130 rfl (lv_at hl 0 rfl) ?_
        refine q_geti (T := TX7) hx hb hB uw_X7 hown hK hC rfl (hL 20 (by decide) (by decide)) rfl 11 (by decide) rfl (hB _ mw_3_55) dX7_look_131 ?_
        refine lv_goto (tgt := 164) hx hb dX7_look_134 (by decide) ?_
        exact J164 (gI M 20 11) _ _ _  hT hC (lv_sub hl [] rfl)
    · have hT : sp_X7_look M a1 = if a1 = 6 then (sp_X7_look_B123 (sp_X7_left M)) else (if a1 = 7 then (sp_X7_look_B123 (gI M 20 9)) else (sp_X7_look_B123 (gI M 20 10))) := hT.trans (if_neg c90)
      have hV : if a1 = 6 then vc_X7_left M else True := iteF hV c90
      refine lv_iload_n hx hb dX7_look_93 rfl (lv_at hl 1 rfl) ?_
      refine lv_bipush (v := 6) hx hb dX7_look_94 (by decide) ?_
      refine lv_icmp_ne (tgt := 106) hx hb dX7_look_96 (by decide) (fun c96 => ?_) (fun c96 => ?_)
      · have hT : sp_X7_look M a1 = if a1 = 7 then (sp_X7_look_B123 (gI M 20 9)) else (sp_X7_look_B123 (gI M 20 10)) := hT.trans (if_neg c96)
        refine lv_iload_n hx hb dX7_look_106 rfl (lv_at hl 1 rfl) ?_
        refine lv_bipush (v := 7) hx hb dX7_look_107 (by decide) ?_
        refine lv_icmp_ne (tgt := 119) hx hb dX7_look_109 (by decide) (fun c109 => ?_) (fun c109 => ?_)
        · have hT : sp_X7_look M a1 = sp_X7_look_B123 (gI M 20 10) := hT.trans (if_neg c109)
          refine lv_aload_n hx hb dX7_look_119 rfl (lv_at hl 0 rfl) ?_
          refine q_geti (T := TX7) hx hb hB uw_X7 hown hK hC rfl (hL 20 (by decide) (by decide)) rfl 10 (by decide) rfl (hB _ mw_3_54) dX7_look_120 ?_
          exact J123 (gI M 20 10) _ _ _  hT hC (lv_sub hl [] rfl)
        · have hT : sp_X7_look M a1 = sp_X7_look_B123 (gI M 20 9) := hT.trans (if_pos c109)
          refine lv_aload_n hx hb dX7_look_112 rfl (lv_at hl 0 rfl) ?_
          refine q_geti (T := TX7) hx hb hB uw_X7 hown hK hC rfl (hL 20 (by decide) (by decide)) rfl 9 (by decide) rfl (hB _ mw_3_53) dX7_look_113 ?_
          refine lv_goto (tgt := 123) hx hb dX7_look_116 (by decide) ?_
          exact J123 (gI M 20 9) _ _ _  hT hC (lv_sub hl [] rfl)
      · have hT : sp_X7_look M a1 = sp_X7_look_B123 (sp_X7_left M) := hT.trans (if_pos c96)
        have hV : vc_X7_left M := iteT hV c96
        refine lv_aload_n hx hb dX7_look_99 rfl (lv_at hl 0 rfl) ?_
        have v100 : vc_X7_left M := hV
        refine q_Ci (q_V (own := "MazeBoardModel") (y := yX7_left) (As := []) (rest := []) ⟨hx, hb, hml, hown, hB⟩ hK hE hC (c_X7_left l D cy ad L H.size (hL.sub (by decide) (by decide)) M  v100) rfl (hL 20 (by decide) (by decide)) rfl mw_4_12 mw_4_14 mw_0_44 mw_1_7 mw_4_15 rfl yd_X7_left ⟨rfl, rfl⟩ ⟨Nat.le_of_ble_eq_true rfl, Nat.le_of_ble_eq_true rfl⟩ rfl hl.1 rfl (Nat.le_of_ble_eq_true rfl) dX7_look_100 ⟨Nat.le_refl _, Nat.le_refl _⟩) hC (fun r N_ H locs hp hC => ?_)
        obtain ⟨hr_, hM_⟩ := hp
        subst hr_
        rw [hM_] at hC
        refine lv_goto (tgt := 123) hx hb dX7_look_103 (by decide) ?_
        exact J123 (sp_X7_left M) _ _ _  hT hC (lv_sub hl [] rfl)
  · have hT : sp_X7_look M a1 = if a1 = 0 then (if (gI M 20 3) = 0 then (sp_X7_look_B86 0) else (sp_X7_look_B86 1)) else (if a1 = 1 then (sp_X7_look_B86 (gI M 20 4)) else (if a1 = 2 then (sp_X7_look_B86 (gI M 20 5)) else (if a1 = 3 then (sp_X7_look_B86 (gI M 20 7)) else (if a1 = 4 then (sp_X7_look_B86 (gI M 20 8)) else (if a1 = 5 then (sp_X7_look_B86 (gI M 20 2)) else (sp_X7_look_B86 (-1))))))) := hT.trans (if_neg c3)
    refine lv_iload_n hx hb dX7_look_6 rfl (lv_at hl 1 rfl) ?_
    refine lv_if_ne (tgt := 25) hx hb dX7_look_7 (by decide) (fun c7 => ?_) (fun c7 => ?_)
    · have hT : sp_X7_look M a1 = if a1 = 1 then (sp_X7_look_B86 (gI M 20 4)) else (if a1 = 2 then (sp_X7_look_B86 (gI M 20 5)) else (if a1 = 3 then (sp_X7_look_B86 (gI M 20 7)) else (if a1 = 4 then (sp_X7_look_B86 (gI M 20 8)) else (if a1 = 5 then (sp_X7_look_B86 (gI M 20 2)) else (sp_X7_look_B86 (-1)))))) := hT.trans (if_neg c7)
      refine lv_iload_n hx hb dX7_look_25 rfl (lv_at hl 1 rfl) ?_
      refine lv_iconst (v := 1) hx hb dX7_look_26 (by decide) ?_
      refine lv_icmp_ne (tgt := 37) hx hb dX7_look_27 (by decide) (fun c27 => ?_) (fun c27 => ?_)
      · have hT : sp_X7_look M a1 = if a1 = 2 then (sp_X7_look_B86 (gI M 20 5)) else (if a1 = 3 then (sp_X7_look_B86 (gI M 20 7)) else (if a1 = 4 then (sp_X7_look_B86 (gI M 20 8)) else (if a1 = 5 then (sp_X7_look_B86 (gI M 20 2)) else (sp_X7_look_B86 (-1))))) := hT.trans (if_neg c27)
        refine lv_iload_n hx hb dX7_look_37 rfl (lv_at hl 1 rfl) ?_
        refine lv_iconst (v := 2) hx hb dX7_look_38 (by decide) ?_
        refine lv_icmp_ne (tgt := 49) hx hb dX7_look_39 (by decide) (fun c39 => ?_) (fun c39 => ?_)
        · have hT : sp_X7_look M a1 = if a1 = 3 then (sp_X7_look_B86 (gI M 20 7)) else (if a1 = 4 then (sp_X7_look_B86 (gI M 20 8)) else (if a1 = 5 then (sp_X7_look_B86 (gI M 20 2)) else (sp_X7_look_B86 (-1)))) := hT.trans (if_neg c39)
          refine lv_iload_n hx hb dX7_look_49 rfl (lv_at hl 1 rfl) ?_
          refine lv_iconst (v := 3) hx hb dX7_look_50 (by decide) ?_
          refine lv_icmp_ne (tgt := 61) hx hb dX7_look_51 (by decide) (fun c51 => ?_) (fun c51 => ?_)
          · have hT : sp_X7_look M a1 = if a1 = 4 then (sp_X7_look_B86 (gI M 20 8)) else (if a1 = 5 then (sp_X7_look_B86 (gI M 20 2)) else (sp_X7_look_B86 (-1))) := hT.trans (if_neg c51)
            refine lv_iload_n hx hb dX7_look_61 rfl (lv_at hl 1 rfl) ?_
            refine lv_iconst (v := 4) hx hb dX7_look_62 (by decide) ?_
            refine lv_icmp_ne (tgt := 73) hx hb dX7_look_63 (by decide) (fun c63 => ?_) (fun c63 => ?_)
            · have hT : sp_X7_look M a1 = if a1 = 5 then (sp_X7_look_B86 (gI M 20 2)) else (sp_X7_look_B86 (-1)) := hT.trans (if_neg c63)
              refine lv_iload_n hx hb dX7_look_73 rfl (lv_at hl 1 rfl) ?_
              refine lv_iconst (v := 5) hx hb dX7_look_74 (by decide) ?_
              refine lv_icmp_ne (tgt := 85) hx hb dX7_look_75 (by decide) (fun c75 => ?_) (fun c75 => ?_)
              · have hT : sp_X7_look M a1 = sp_X7_look_B86 (-1) := hT.trans (if_neg c75)
                refine lv_iconst (v := (-1)) hx hb dX7_look_85 (by decide) ?_
                exact J86 (-1) _ _ _  hT hC (lv_sub hl [] rfl)
              · have hT : sp_X7_look M a1 = sp_X7_look_B86 (gI M 20 2) := hT.trans (if_pos c75)
                refine lv_aload_n hx hb dX7_look_78 rfl (lv_at hl 0 rfl) ?_
                refine q_geti (T := TX7) hx hb hB uw_X7 hown hK hC rfl (hL 20 (by decide) (by decide)) rfl 2 (by decide) rfl (hB _ mw_3_46) dX7_look_79 ?_
                refine lv_goto (tgt := 86) hx hb dX7_look_82 (by decide) ?_
                exact J86 (gI M 20 2) _ _ _  hT hC (lv_sub hl [] rfl)
            · have hT : sp_X7_look M a1 = sp_X7_look_B86 (gI M 20 8) := hT.trans (if_pos c63)
              refine lv_aload_n hx hb dX7_look_66 rfl (lv_at hl 0 rfl) ?_
              refine q_geti (T := TX7) hx hb hB uw_X7 hown hK hC rfl (hL 20 (by decide) (by decide)) rfl 8 (by decide) rfl (hB _ mw_3_52) dX7_look_67 ?_
              refine lv_goto (tgt := 86) hx hb dX7_look_70 (by decide) ?_
              exact J86 (gI M 20 8) _ _ _  hT hC (lv_sub hl [] rfl)
          · have hT : sp_X7_look M a1 = sp_X7_look_B86 (gI M 20 7) := hT.trans (if_pos c51)
            refine lv_aload_n hx hb dX7_look_54 rfl (lv_at hl 0 rfl) ?_
            refine q_geti (T := TX7) hx hb hB uw_X7 hown hK hC rfl (hL 20 (by decide) (by decide)) rfl 7 (by decide) rfl (hB _ mw_3_51) dX7_look_55 ?_
            refine lv_goto (tgt := 86) hx hb dX7_look_58 (by decide) ?_
            exact J86 (gI M 20 7) _ _ _  hT hC (lv_sub hl [] rfl)
        · have hT : sp_X7_look M a1 = sp_X7_look_B86 (gI M 20 5) := hT.trans (if_pos c39)
          refine lv_aload_n hx hb dX7_look_42 rfl (lv_at hl 0 rfl) ?_
          refine q_geti (T := TX7) hx hb hB uw_X7 hown hK hC rfl (hL 20 (by decide) (by decide)) rfl 5 (by decide) rfl (hB _ mw_3_49) dX7_look_43 ?_
          refine lv_goto (tgt := 86) hx hb dX7_look_46 (by decide) ?_
          exact J86 (gI M 20 5) _ _ _  hT hC (lv_sub hl [] rfl)
      · have hT : sp_X7_look M a1 = sp_X7_look_B86 (gI M 20 4) := hT.trans (if_pos c27)
        refine lv_aload_n hx hb dX7_look_30 rfl (lv_at hl 0 rfl) ?_
        refine q_geti (T := TX7) hx hb hB uw_X7 hown hK hC rfl (hL 20 (by decide) (by decide)) rfl 4 (by decide) rfl (hB _ mw_3_48) dX7_look_31 ?_
        refine lv_goto (tgt := 86) hx hb dX7_look_34 (by decide) ?_
        exact J86 (gI M 20 4) _ _ _  hT hC (lv_sub hl [] rfl)
    · have hT : sp_X7_look M a1 = if (gI M 20 3) = 0 then (sp_X7_look_B86 0) else (sp_X7_look_B86 1) := hT.trans (if_pos c7)
      refine lv_aload_n hx hb dX7_look_10 rfl (lv_at hl 0 rfl) ?_
      refine q_geti (T := TX7) hx hb hB uw_X7 hown hK hC rfl (hL 20 (by decide) (by decide)) rfl 3 (by decide) rfl (hB _ mw_3_47) dX7_look_11 ?_
      refine lv_if_eq (tgt := 21) hx hb dX7_look_14 (by decide) (fun c14 => ?_) (fun c14 => ?_)
      · have hT : sp_X7_look M a1 = sp_X7_look_B86 0 := hT.trans (if_pos c14)
        refine lv_iconst (v := 0) hx hb dX7_look_21 (by decide) ?_
        refine lv_goto (tgt := 86) hx hb dX7_look_22 (by decide) ?_
        exact J86 0 _ _ _  hT hC (lv_sub hl [] rfl)
      · have hT : sp_X7_look M a1 = sp_X7_look_B86 1 := hT.trans (if_neg c14)
        refine lv_iconst (v := 1) hx hb dX7_look_17 (by decide) ?_
        refine lv_goto (tgt := 86) hx hb dX7_look_18 (by decide) ?_
        exact J86 1 _ _ _  hT hC (lv_sub hl [] rfl)
set_option maxHeartbeats 4000000 in
set_option maxRecDepth 100000 in
theorem c_X7_actor (l : Launch) (D : va_G) (cy ad : Nat → Nat) (L : List Nat) (sz : Nat) (hL : lr 20 34 L) (M : Mem) (a1 : Int32) (a2 : Int32) (hV : vc_X7_actor M a1 a2) : Met l yX7_actor (Cond.code yX7_actor cX7_actor 3 (some .int) :: BG) ({ frames := 0, cells := 0, slots := 0, locals := 0 }) (va_Pc [.ref (ad 20), .int a1, .int a2] (PW D cy ad L M sz)) (va_Qi (fun r N => r = sp_X7_actor M a1 a2 ∧ N = M) (OW D cy ad L sz) (fA ad L sz)) 0 0 (fA ad L sz) := by
  refine q_start (by decide) (Nat.le_of_ble_eq_true rfl) (fun p e s m below meth c H locs ls hsz hx hb hr hlocks hml hown hB hK hE hC hl => ?_)
  subst hsz
  have hown : s.vm.findClass "MazeBoardModel" = some m.cls := hown
  have hl : lv_has ls 3 [(0, .ref (ad 20)), (1, .int a1), (2, .int a2)] := hl
  have J109 : ∀ (x2 : Int32) (H : Heap) (locs : List Loc) (ls : Array Slot) (hT : sp_X7_actor M a1 a2 = sp_X7_actor_B109 x2) (hC : Cx D cy ad R0 L (fA ad L s.heap.size) s M H locs) (hl : lv_has ls 3 []), W p l e ({ frames := 0, cells := 0, slots := 0, locals := 0 }) s m ([.ref (ad 20), .int a1, .int a2] : List Value).toArray below meth c H locs 0 0 (MQ below (va_Qi (fun r N => r = sp_X7_actor M a1 a2 ∧ N = M) (OW D cy ad L s.heap.size) (fA ad L s.heap.size)) ([.ref (ad 20), .int a1, .int a2] : List Value).toArray s 0 0 (fA ad L s.heap.size)) (F0 m 109 ls [.int x2]) := by
    intro x2 H locs ls  hT hC hl
    have hT : sp_X7_actor M a1 a2 = x2 := hT
    exact q_reti hx hb hr hlocks hC ⟨hT.symm, rfl⟩ dX7_actor_109
  have J58 : ∀ (x1 : Int32) (H : Heap) (locs : List Loc) (ls : Array Slot) (hT : sp_X7_actor M a1 a2 = sp_X7_actor_B58 x1) (hC : Cx D cy ad R0 L (fA ad L s.heap.size) s M H locs) (hl : lv_has ls 3 []), W p l e ({ frames := 0, cells := 0, slots := 0, locals := 0 }) s m ([.ref (ad 20), .int a1, .int a2] : List Value).toArray below meth c H locs 0 0 (MQ below (va_Qi (fun r N => r = sp_X7_actor M a1 a2 ∧ N = M) (OW D cy ad L s.heap.size) (fA ad L s.heap.size)) ([.ref (ad 20), .int a1, .int a2] : List Value).toArray s 0 0 (fA ad L s.heap.size)) (F0 m 58 ls [.int x1]) := by
    intro x1 H locs ls  hT hC hl
    have hT : sp_X7_actor M a1 a2 = x1 := hT
    exact q_reti hx hb hr hlocks hC ⟨hT.symm, rfl⟩ dX7_actor_58
  have J18 : ∀  (H : Heap) (locs : List Loc) (ls : Array Slot) (hT : sp_X7_actor M a1 a2 = sp_X7_actor_B18 ) (hC : Cx D cy ad R0 L (fA ad L s.heap.size) s M H locs) (hl : lv_has ls 3 []), W p l e ({ frames := 0, cells := 0, slots := 0, locals := 0 }) s m ([.ref (ad 20), .int a1, .int a2] : List Value).toArray below meth c H locs 0 0 (MQ below (va_Qi (fun r N => r = sp_X7_actor M a1 a2 ∧ N = M) (OW D cy ad L s.heap.size) (fA ad L s.heap.size)) ([.ref (ad 20), .int a1, .int a2] : List Value).toArray s 0 0 (fA ad L s.heap.size)) (F0 m 18 ls []) := by
    intro  H locs ls  hT hC hl
    have hT : sp_X7_actor M a1 a2 = (-1) := hT
    refine lv_iconst (v := (-1)) hx hb dX7_actor_18 (by decide) ?_
    exact q_reti hx hb hr hlocks hC ⟨hT.symm, rfl⟩ dX7_actor_19
  have hT : sp_X7_actor M a1 a2 = if a1 < 0 then sp_X7_actor_B18 else (if 4 < a1 then sp_X7_actor_B18 else (if a2 < 0 then sp_X7_actor_B18 else (if a2 ≤ 5 then (if 3 ≤ a2 then (if a2 = 3 then (if (gI M 27 a1.toNatClampNeg) = 0 then (sp_X7_actor_B109 0) else (sp_X7_actor_B109 1)) else (if a2 = 4 then (sp_X7_actor_B109 (gI M 28 a1.toNatClampNeg)) else (if (gI M 29 a1.toNatClampNeg) = 0 then (sp_X7_actor_B109 0) else (sp_X7_actor_B109 1)))) else (if a2 = 0 then (sp_X7_actor_B58 (gI M 23 a1.toNatClampNeg)) else (if a2 = 1 then (sp_X7_actor_B58 (gI M 24 a1.toNatClampNeg)) else (sp_X7_actor_B58 (gI M 25 a1.toNatClampNeg))))) else sp_X7_actor_B18))) := rfl
  have hV : if a1 < 0 then True else (if 4 < a1 then True else (if a2 < 0 then True else (if a2 ≤ 5 then (if 3 ≤ a2 then (if a2 = 3 then vp_in a1 5 else (if a2 = 4 then vp_in a1 5 else vp_in a1 5)) else (if a2 = 0 then vp_in a1 5 else (if a2 = 1 then vp_in a1 5 else vp_in a1 5))) else True))) := hV
  refine lv_iload_n hx hb dX7_actor_0 rfl (lv_at hl 1 rfl) ?_
  refine lv_if_lt (tgt := 18) hx hb dX7_actor_1 (by decide) (fun c1 => ?_) (fun c1 => ?_)
  · have hT : sp_X7_actor M a1 a2 = sp_X7_actor_B18 := hT.trans (if_pos c1)
    exact J18  _ _ _  hT hC (lv_sub hl [] rfl)
  · have hT : sp_X7_actor M a1 a2 = if 4 < a1 then sp_X7_actor_B18 else (if a2 < 0 then sp_X7_actor_B18 else (if a2 ≤ 5 then (if 3 ≤ a2 then (if a2 = 3 then (if (gI M 27 a1.toNatClampNeg) = 0 then (sp_X7_actor_B109 0) else (sp_X7_actor_B109 1)) else (if a2 = 4 then (sp_X7_actor_B109 (gI M 28 a1.toNatClampNeg)) else (if (gI M 29 a1.toNatClampNeg) = 0 then (sp_X7_actor_B109 0) else (sp_X7_actor_B109 1)))) else (if a2 = 0 then (sp_X7_actor_B58 (gI M 23 a1.toNatClampNeg)) else (if a2 = 1 then (sp_X7_actor_B58 (gI M 24 a1.toNatClampNeg)) else (sp_X7_actor_B58 (gI M 25 a1.toNatClampNeg))))) else sp_X7_actor_B18)) := hT.trans (if_neg c1)
    have hV : if 4 < a1 then True else (if a2 < 0 then True else (if a2 ≤ 5 then (if 3 ≤ a2 then (if a2 = 3 then vp_in a1 5 else (if a2 = 4 then vp_in a1 5 else vp_in a1 5)) else (if a2 = 0 then vp_in a1 5 else (if a2 = 1 then vp_in a1 5 else vp_in a1 5))) else True)) := iteF hV c1
    refine lv_iload_n hx hb dX7_actor_4 rfl (lv_at hl 1 rfl) ?_
    refine lv_iconst (v := 4) hx hb dX7_actor_5 (by decide) ?_
    refine lv_icmp_gt (tgt := 18) hx hb dX7_actor_6 (by decide) (fun c6 => ?_) (fun c6 => ?_)
    · have hT : sp_X7_actor M a1 a2 = sp_X7_actor_B18 := hT.trans (if_pos c6)
      exact J18  _ _ _  hT hC (lv_sub hl [] rfl)
    · have hT : sp_X7_actor M a1 a2 = if a2 < 0 then sp_X7_actor_B18 else (if a2 ≤ 5 then (if 3 ≤ a2 then (if a2 = 3 then (if (gI M 27 a1.toNatClampNeg) = 0 then (sp_X7_actor_B109 0) else (sp_X7_actor_B109 1)) else (if a2 = 4 then (sp_X7_actor_B109 (gI M 28 a1.toNatClampNeg)) else (if (gI M 29 a1.toNatClampNeg) = 0 then (sp_X7_actor_B109 0) else (sp_X7_actor_B109 1)))) else (if a2 = 0 then (sp_X7_actor_B58 (gI M 23 a1.toNatClampNeg)) else (if a2 = 1 then (sp_X7_actor_B58 (gI M 24 a1.toNatClampNeg)) else (sp_X7_actor_B58 (gI M 25 a1.toNatClampNeg))))) else sp_X7_actor_B18) := hT.trans (if_neg c6)
      have hV : if a2 < 0 then True else (if a2 ≤ 5 then (if 3 ≤ a2 then (if a2 = 3 then vp_in a1 5 else (if a2 = 4 then vp_in a1 5 else vp_in a1 5)) else (if a2 = 0 then vp_in a1 5 else (if a2 = 1 then vp_in a1 5 else vp_in a1 5))) else True) := iteF hV c6
      refine lv_iload_n hx hb dX7_actor_9 rfl (lv_at hl 2 rfl) ?_
      refine lv_if_lt (tgt := 18) hx hb dX7_actor_10 (by decide) (fun c10 => ?_) (fun c10 => ?_)
      · have hT : sp_X7_actor M a1 a2 = sp_X7_actor_B18 := hT.trans (if_pos c10)
        exact J18  _ _ _  hT hC (lv_sub hl [] rfl)
      · have hT : sp_X7_actor M a1 a2 = if a2 ≤ 5 then (if 3 ≤ a2 then (if a2 = 3 then (if (gI M 27 a1.toNatClampNeg) = 0 then (sp_X7_actor_B109 0) else (sp_X7_actor_B109 1)) else (if a2 = 4 then (sp_X7_actor_B109 (gI M 28 a1.toNatClampNeg)) else (if (gI M 29 a1.toNatClampNeg) = 0 then (sp_X7_actor_B109 0) else (sp_X7_actor_B109 1)))) else (if a2 = 0 then (sp_X7_actor_B58 (gI M 23 a1.toNatClampNeg)) else (if a2 = 1 then (sp_X7_actor_B58 (gI M 24 a1.toNatClampNeg)) else (sp_X7_actor_B58 (gI M 25 a1.toNatClampNeg))))) else sp_X7_actor_B18 := hT.trans (if_neg c10)
        have hV : if a2 ≤ 5 then (if 3 ≤ a2 then (if a2 = 3 then vp_in a1 5 else (if a2 = 4 then vp_in a1 5 else vp_in a1 5)) else (if a2 = 0 then vp_in a1 5 else (if a2 = 1 then vp_in a1 5 else vp_in a1 5))) else True := iteF hV c10
        refine lv_iload_n hx hb dX7_actor_13 rfl (lv_at hl 2 rfl) ?_
        refine lv_iconst (v := 5) hx hb dX7_actor_14 (by decide) ?_
        refine lv_icmp_le (tgt := 20) hx hb dX7_actor_15 (by decide) (fun c15 => ?_) (fun c15 => ?_)
        · have hT : sp_X7_actor M a1 a2 = if 3 ≤ a2 then (if a2 = 3 then (if (gI M 27 a1.toNatClampNeg) = 0 then (sp_X7_actor_B109 0) else (sp_X7_actor_B109 1)) else (if a2 = 4 then (sp_X7_actor_B109 (gI M 28 a1.toNatClampNeg)) else (if (gI M 29 a1.toNatClampNeg) = 0 then (sp_X7_actor_B109 0) else (sp_X7_actor_B109 1)))) else (if a2 = 0 then (sp_X7_actor_B58 (gI M 23 a1.toNatClampNeg)) else (if a2 = 1 then (sp_X7_actor_B58 (gI M 24 a1.toNatClampNeg)) else (sp_X7_actor_B58 (gI M 25 a1.toNatClampNeg)))) := hT.trans (if_pos c15)
          have hV : if 3 ≤ a2 then (if a2 = 3 then vp_in a1 5 else (if a2 = 4 then vp_in a1 5 else vp_in a1 5)) else (if a2 = 0 then vp_in a1 5 else (if a2 = 1 then vp_in a1 5 else vp_in a1 5)) := iteT hV c15
          refine lv_iload_n hx hb dX7_actor_20 rfl (lv_at hl 2 rfl) ?_
          refine lv_iconst (v := 3) hx hb dX7_actor_21 (by decide) ?_
          refine lv_icmp_ge (tgt := 59) hx hb dX7_actor_22 (by decide) (fun c22 => ?_) (fun c22 => ?_)
          · have hT : sp_X7_actor M a1 a2 = if a2 = 3 then (if (gI M 27 a1.toNatClampNeg) = 0 then (sp_X7_actor_B109 0) else (sp_X7_actor_B109 1)) else (if a2 = 4 then (sp_X7_actor_B109 (gI M 28 a1.toNatClampNeg)) else (if (gI M 29 a1.toNatClampNeg) = 0 then (sp_X7_actor_B109 0) else (sp_X7_actor_B109 1))) := hT.trans (if_pos c22)
            have hV : if a2 = 3 then vp_in a1 5 else (if a2 = 4 then vp_in a1 5 else vp_in a1 5) := iteT hV c22
            refine lv_iload_n hx hb dX7_actor_59 rfl (lv_at hl 2 rfl) ?_
            refine lv_iconst (v := 3) hx hb dX7_actor_60 (by decide) ?_
            refine lv_icmp_ne (tgt := 81) hx hb dX7_actor_61 (by decide) (fun c61 => ?_) (fun c61 => ?_)
            · have hT : sp_X7_actor M a1 a2 = if a2 = 4 then (sp_X7_actor_B109 (gI M 28 a1.toNatClampNeg)) else (if (gI M 29 a1.toNatClampNeg) = 0 then (sp_X7_actor_B109 0) else (sp_X7_actor_B109 1)) := hT.trans (if_neg c61)
              have hV : if a2 = 4 then vp_in a1 5 else vp_in a1 5 := iteF hV c61
              refine lv_iload_n hx hb dX7_actor_81 rfl (lv_at hl 2 rfl) ?_
              refine lv_iconst (v := 4) hx hb dX7_actor_82 (by decide) ?_
              refine lv_icmp_ne (tgt := 95) hx hb dX7_actor_83 (by decide) (fun c83 => ?_) (fun c83 => ?_)
              · have hT : sp_X7_actor M a1 a2 = if (gI M 29 a1.toNatClampNeg) = 0 then (sp_X7_actor_B109 0) else (sp_X7_actor_B109 1) := hT.trans (if_neg c83)
                have hV : vp_in a1 5 := iteF hV c83
                refine lv_aload_n hx hb dX7_actor_95 rfl (lv_at hl 0 rfl) ?_
                refine q_getr (T := TX7) hx hb hB uw_X7 hown hK hC rfl (hL 20 (by decide) (by decide)) rfl 22 (by decide) rfl rfl (hB _ mw_3_66) dX7_actor_96 ?_
                refine lv_iload_n hx hb dX7_actor_99 rfl (lv_at hl 1 rfl) ?_
                have w100 : vp_in a1 5 := hV
                refine q_zald hx hb hK hC rfl (hL 29 (by decide) (by decide)) rfl w100 rfl dX7_actor_100 ?_
                refine lv_if_eq (tgt := 108) hx hb dX7_actor_101 (by decide) (fun c101 => ?_) (fun c101 => ?_)
                · have hT : sp_X7_actor M a1 a2 = sp_X7_actor_B109 0 := hT.trans (if_pos c101)
                  refine lv_iconst (v := 0) hx hb dX7_actor_108 (by decide) ?_
                  exact J109 0 _ _ _  hT hC (lv_sub hl [] rfl)
                · have hT : sp_X7_actor M a1 a2 = sp_X7_actor_B109 1 := hT.trans (if_neg c101)
                  refine lv_iconst (v := 1) hx hb dX7_actor_104 (by decide) ?_
                  refine lv_goto (tgt := 109) hx hb dX7_actor_105 (by decide) ?_
                  exact J109 1 _ _ _  hT hC (lv_sub hl [] rfl)
              · have hT : sp_X7_actor M a1 a2 = sp_X7_actor_B109 (gI M 28 a1.toNatClampNeg) := hT.trans (if_pos c83)
                have hV : vp_in a1 5 := iteT hV c83
                refine lv_aload_n hx hb dX7_actor_86 rfl (lv_at hl 0 rfl) ?_
                refine q_getr (T := TX7) hx hb hB uw_X7 hown hK hC rfl (hL 20 (by decide) (by decide)) rfl 21 (by decide) rfl rfl (hB _ mw_3_65) dX7_actor_87 ?_
                refine lv_iload_n hx hb dX7_actor_90 rfl (lv_at hl 1 rfl) ?_
                have w91 : vp_in a1 5 := hV
                refine q_iald hx hb hK hC rfl (hL 28 (by decide) (by decide)) rfl w91 rfl dX7_actor_91 ?_
                refine lv_goto (tgt := 109) hx hb dX7_actor_92 (by decide) ?_
                exact J109 (gI M 28 a1.toNatClampNeg) _ _ _  hT hC (lv_sub hl [] rfl)
            · have hT : sp_X7_actor M a1 a2 = if (gI M 27 a1.toNatClampNeg) = 0 then (sp_X7_actor_B109 0) else (sp_X7_actor_B109 1) := hT.trans (if_pos c61)
              have hV : vp_in a1 5 := iteT hV c61
              refine lv_aload_n hx hb dX7_actor_64 rfl (lv_at hl 0 rfl) ?_
              refine q_getr (T := TX7) hx hb hB uw_X7 hown hK hC rfl (hL 20 (by decide) (by decide)) rfl 20 (by decide) rfl rfl (hB _ mw_3_64) dX7_actor_65 ?_
              refine lv_iload_n hx hb dX7_actor_68 rfl (lv_at hl 1 rfl) ?_
              have w69 : vp_in a1 5 := hV
              refine q_zald hx hb hK hC rfl (hL 27 (by decide) (by decide)) rfl w69 rfl dX7_actor_69 ?_
              refine lv_if_eq (tgt := 77) hx hb dX7_actor_70 (by decide) (fun c70 => ?_) (fun c70 => ?_)
              · have hT : sp_X7_actor M a1 a2 = sp_X7_actor_B109 0 := hT.trans (if_pos c70)
                refine lv_iconst (v := 0) hx hb dX7_actor_77 (by decide) ?_
                refine lv_goto (tgt := 109) hx hb dX7_actor_78 (by decide) ?_
                exact J109 0 _ _ _  hT hC (lv_sub hl [] rfl)
              · have hT : sp_X7_actor M a1 a2 = sp_X7_actor_B109 1 := hT.trans (if_neg c70)
                refine lv_iconst (v := 1) hx hb dX7_actor_73 (by decide) ?_
                refine lv_goto (tgt := 109) hx hb dX7_actor_74 (by decide) ?_
                exact J109 1 _ _ _  hT hC (lv_sub hl [] rfl)
          · have hT : sp_X7_actor M a1 a2 = if a2 = 0 then (sp_X7_actor_B58 (gI M 23 a1.toNatClampNeg)) else (if a2 = 1 then (sp_X7_actor_B58 (gI M 24 a1.toNatClampNeg)) else (sp_X7_actor_B58 (gI M 25 a1.toNatClampNeg))) := hT.trans (if_neg c22)
            have hV : if a2 = 0 then vp_in a1 5 else (if a2 = 1 then vp_in a1 5 else vp_in a1 5) := iteF hV c22
            refine lv_iload_n hx hb dX7_actor_25 rfl (lv_at hl 2 rfl) ?_
            refine lv_if_ne (tgt := 38) hx hb dX7_actor_26 (by decide) (fun c26 => ?_) (fun c26 => ?_)
            · have hT : sp_X7_actor M a1 a2 = if a2 = 1 then (sp_X7_actor_B58 (gI M 24 a1.toNatClampNeg)) else (sp_X7_actor_B58 (gI M 25 a1.toNatClampNeg)) := hT.trans (if_neg c26)
              have hV : if a2 = 1 then vp_in a1 5 else vp_in a1 5 := iteF hV c26
              refine lv_iload_n hx hb dX7_actor_38 rfl (lv_at hl 2 rfl) ?_
              refine lv_iconst (v := 1) hx hb dX7_actor_39 (by decide) ?_
              refine lv_icmp_ne (tgt := 52) hx hb dX7_actor_40 (by decide) (fun c40 => ?_) (fun c40 => ?_)
              · have hT : sp_X7_actor M a1 a2 = sp_X7_actor_B58 (gI M 25 a1.toNatClampNeg) := hT.trans (if_neg c40)
                have hV : vp_in a1 5 := iteF hV c40
                refine lv_aload_n hx hb dX7_actor_52 rfl (lv_at hl 0 rfl) ?_
                refine q_getr (T := TX7) hx hb hB uw_X7 hown hK hC rfl (hL 20 (by decide) (by decide)) rfl 18 (by decide) rfl rfl (hB _ mw_3_62) dX7_actor_53 ?_
                refine lv_iload_n hx hb dX7_actor_56 rfl (lv_at hl 1 rfl) ?_
                have w57 : vp_in a1 5 := hV
                refine q_iald hx hb hK hC rfl (hL 25 (by decide) (by decide)) rfl w57 rfl dX7_actor_57 ?_
                exact J58 (gI M 25 a1.toNatClampNeg) _ _ _  hT hC (lv_sub hl [] rfl)
              · have hT : sp_X7_actor M a1 a2 = sp_X7_actor_B58 (gI M 24 a1.toNatClampNeg) := hT.trans (if_pos c40)
                have hV : vp_in a1 5 := iteT hV c40
                refine lv_aload_n hx hb dX7_actor_43 rfl (lv_at hl 0 rfl) ?_
                refine q_getr (T := TX7) hx hb hB uw_X7 hown hK hC rfl (hL 20 (by decide) (by decide)) rfl 17 (by decide) rfl rfl (hB _ mw_3_61) dX7_actor_44 ?_
                refine lv_iload_n hx hb dX7_actor_47 rfl (lv_at hl 1 rfl) ?_
                have w48 : vp_in a1 5 := hV
                refine q_iald hx hb hK hC rfl (hL 24 (by decide) (by decide)) rfl w48 rfl dX7_actor_48 ?_
                refine lv_goto (tgt := 58) hx hb dX7_actor_49 (by decide) ?_
                exact J58 (gI M 24 a1.toNatClampNeg) _ _ _  hT hC (lv_sub hl [] rfl)
            · have hT : sp_X7_actor M a1 a2 = sp_X7_actor_B58 (gI M 23 a1.toNatClampNeg) := hT.trans (if_pos c26)
              have hV : vp_in a1 5 := iteT hV c26
              refine lv_aload_n hx hb dX7_actor_29 rfl (lv_at hl 0 rfl) ?_
              refine q_getr (T := TX7) hx hb hB uw_X7 hown hK hC rfl (hL 20 (by decide) (by decide)) rfl 16 (by decide) rfl rfl (hB _ mw_3_60) dX7_actor_30 ?_
              refine lv_iload_n hx hb dX7_actor_33 rfl (lv_at hl 1 rfl) ?_
              have w34 : vp_in a1 5 := hV
              refine q_iald hx hb hK hC rfl (hL 23 (by decide) (by decide)) rfl w34 rfl dX7_actor_34 ?_
              refine lv_goto (tgt := 58) hx hb dX7_actor_35 (by decide) ?_
              exact J58 (gI M 23 a1.toNatClampNeg) _ _ _  hT hC (lv_sub hl [] rfl)
        · have hT : sp_X7_actor M a1 a2 = sp_X7_actor_B18 := hT.trans (if_neg c15)
          exact J18  _ _ _  hT hC (lv_sub hl [] rfl)
set_option maxHeartbeats 4000000 in
set_option maxRecDepth 100000 in
theorem c_X7_progress (l : Launch) (D : va_G) (cy ad : Nat → Nat) (L : List Nat) (sz : Nat) (hL : lr 20 34 L) (M : Mem) (a1 : Int32) (hV : vc_X7_progress M a1) : Met l yX7_progress (Cond.code yX7_progress cX7_progress 2 (some .float) :: BG) ({ frames := 0, cells := 0, slots := 0, locals := 0 }) (va_Pc [.ref (ad 20), .int a1] (PW D cy ad L M sz)) (va_Qf (fun r N => r = sp_X7_progress M a1 ∧ N = M) (OW D cy ad L sz) (fA ad L sz)) 0 0 (fA ad L sz) := by
  refine q_start (by decide) (Nat.le_of_ble_eq_true rfl) (fun p e s m below meth c H locs ls hsz hx hb hr hlocks hml hown hB hK hE hC hl => ?_)
  subst hsz
  have hown : s.vm.findClass "MazeBoardModel" = some m.cls := hown
  have hl : lv_has ls 2 [(0, .ref (ad 20)), (1, .int a1)] := hl
  have J19 : ∀ (f1 : UInt32) (H : Heap) (locs : List Loc) (ls : Array Slot) (hT : sp_X7_progress M a1 = sp_X7_progress_B19 f1) (hC : Cx D cy ad R0 L (fA ad L s.heap.size) s M H locs) (hl : lv_has ls 2 []), W p l e ({ frames := 0, cells := 0, slots := 0, locals := 0 }) s m ([.ref (ad 20), .int a1] : List Value).toArray below meth c H locs 0 0 (MQ below (va_Qf (fun r N => r = sp_X7_progress M a1 ∧ N = M) (OW D cy ad L s.heap.size) (fA ad L s.heap.size)) ([.ref (ad 20), .int a1] : List Value).toArray s 0 0 (fA ad L s.heap.size)) (F0 m 19 ls [.float f1]) := by
    intro f1 H locs ls  hT hC hl
    have hT : sp_X7_progress M a1 = f1 := hT
    exact q_retf hx hb hr hlocks hC ⟨hT.symm, rfl⟩ dX7_progress_19
  have J9 : ∀  (H : Heap) (locs : List Loc) (ls : Array Slot) (hT : sp_X7_progress M a1 = sp_X7_progress_B9 ) (hC : Cx D cy ad R0 L (fA ad L s.heap.size) s M H locs) (hl : lv_has ls 2 []), W p l e ({ frames := 0, cells := 0, slots := 0, locals := 0 }) s m ([.ref (ad 20), .int a1] : List Value).toArray below meth c H locs 0 0 (MQ below (va_Qf (fun r N => r = sp_X7_progress M a1 ∧ N = M) (OW D cy ad L s.heap.size) (fA ad L s.heap.size)) ([.ref (ad 20), .int a1] : List Value).toArray s 0 0 (fA ad L s.heap.size)) (F0 m 9 ls []) := by
    intro  H locs ls  hT hC hl
    have hT : sp_X7_progress M a1 = sp_X7_progress_B19 FP.fconst0 := hT
    refine lv_fconst0 hx hb dX7_progress_9 ?_
    refine lv_goto (tgt := 19) hx hb dX7_progress_10 (by decide) ?_
    exact J19 FP.fconst0 _ _ _  hT hC (lv_sub hl [] rfl)
  have hT : sp_X7_progress M a1 = if a1 < 0 then sp_X7_progress_B9 else (if a1 ≤ 4 then (sp_X7_progress_B19 (gF M 26 a1.toNatClampNeg)) else sp_X7_progress_B9) := rfl
  have hV : if a1 < 0 then True else (if a1 ≤ 4 then vp_in a1 5 else True) := hV
  refine lv_iload_n hx hb dX7_progress_0 rfl (lv_at hl 1 rfl) ?_
  refine lv_if_lt (tgt := 9) hx hb dX7_progress_1 (by decide) (fun c1 => ?_) (fun c1 => ?_)
  · have hT : sp_X7_progress M a1 = sp_X7_progress_B9 := hT.trans (if_pos c1)
    exact J9  _ _ _  hT hC (lv_sub hl [] rfl)
  · have hT : sp_X7_progress M a1 = if a1 ≤ 4 then (sp_X7_progress_B19 (gF M 26 a1.toNatClampNeg)) else sp_X7_progress_B9 := hT.trans (if_neg c1)
    have hV : if a1 ≤ 4 then vp_in a1 5 else True := iteF hV c1
    refine lv_iload_n hx hb dX7_progress_4 rfl (lv_at hl 1 rfl) ?_
    refine lv_iconst (v := 4) hx hb dX7_progress_5 (by decide) ?_
    refine lv_icmp_le (tgt := 13) hx hb dX7_progress_6 (by decide) (fun c6 => ?_) (fun c6 => ?_)
    · have hT : sp_X7_progress M a1 = sp_X7_progress_B19 (gF M 26 a1.toNatClampNeg) := hT.trans (if_pos c6)
      have hV : vp_in a1 5 := iteT hV c6
      refine lv_aload_n hx hb dX7_progress_13 rfl (lv_at hl 0 rfl) ?_
      refine q_getr (T := TX7) hx hb hB uw_X7 hown hK hC rfl (hL 20 (by decide) (by decide)) rfl 19 (by decide) rfl rfl (hB _ mw_3_63) dX7_progress_14 ?_
      refine lv_iload_n hx hb dX7_progress_17 rfl (lv_at hl 1 rfl) ?_
      have w18 : vp_in a1 5 := hV
      refine q_fald hx hb hK hC rfl (hL 26 (by decide) (by decide)) rfl w18 rfl dX7_progress_18 ?_
      exact J19 (gF M 26 a1.toNatClampNeg) _ _ _  hT hC (lv_sub hl [] rfl)
    · have hT : sp_X7_progress M a1 = sp_X7_progress_B9 := hT.trans (if_neg c6)
      exact J9  _ _ _  hT hC (lv_sub hl [] rfl)
