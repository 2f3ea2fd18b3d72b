set_option maxHeartbeats 4000000 in
set_option maxRecDepth 100000 in
theorem c_X7_met (l : Launch) (D : va_G) (cy ad : Nat → Nat) (L : List Nat) (sz : Nat) (hL : lr 20 34 L) (M : Mem) (a1 : Int32) (hV : vc_X7_met M a1) : Met l yX7_met (Cond.code yX7_met cX7_met 4 (some .boolean) :: BG) ({ frames := 0, cells := 0, slots := 0, locals := 0 }) (va_Pc [.ref (ad 20), .int a1] (PW D cy ad L M sz)) (va_Qi (fun r N => r = sp_X7_met M a1 ∧ N = M) (OW D cy ad L sz) (fA ad L sz)) 0 0 (fA ad L sz) := by
  refine q_start (by decide) (Nat.le_of_ble_eq_true rfl) (fun p e s m below meth c H locs ls hsz hx hb hr hlocks hml hown hB hK hE hC hl => ?_)
  subst hsz
  have hown : s.vm.findClass "MazeBoardModel" = some m.cls := hown
  have hl : lv_has ls 4 [(0, .ref (ad 20)), (1, .int a1)] := hl
  have J115 : ∀ (x3 : Int32) (H : Heap) (locs : List Loc) (ls : Array Slot) (hT : sp_X7_met M a1 = sp_X7_met_B115 x3) (hV : vc_X7_met_B115 x3) (hC : Cx D cy ad R0 L (fA ad L s.heap.size) s M H locs) (hl : lv_has ls 4 []), W p l e ({ frames := 0, cells := 0, slots := 0, locals := 0 }) s m ([.ref (ad 20), .int a1] : List Value).toArray below meth c H locs 0 0 (MQ below (va_Qi (fun r N => r = sp_X7_met M a1 ∧ N = M) (OW D cy ad L s.heap.size) (fA ad L s.heap.size)) ([.ref (ad 20), .int a1] : List Value).toArray s 0 0 (fA ad L s.heap.size)) (F0 m 115 ls [.int x3]) := by
    intro x3 H locs ls  hT hV hC hl
    have hT : sp_X7_met M a1 = x3 := hT
    have hV : (x3 = 0 ∨ x3 = 1) := hV
    have w115 : x3 = 0 ∨ x3 = 1 := hV
    exact q_retz hx hb hr hlocks hC w115 ⟨hT.symm, rfl⟩ dX7_met_115
  have J110 : ∀  (H : Heap) (locs : List Loc) (ls : Array Slot) (hT : sp_X7_met M a1 = sp_X7_met_B110 ) (hV : vc_X7_met_B110 ) (hC : Cx D cy ad R0 L (fA ad L s.heap.size) s M H locs) (hl : lv_has ls 4 []), W p l e ({ frames := 0, cells := 0, slots := 0, locals := 0 }) s m ([.ref (ad 20), .int a1] : List Value).toArray below meth c H locs 0 0 (MQ below (va_Qi (fun r N => r = sp_X7_met M a1 ∧ N = M) (OW D cy ad L s.heap.size) (fA ad L s.heap.size)) ([.ref (ad 20), .int a1] : List Value).toArray s 0 0 (fA ad L s.heap.size)) (F0 m 110 ls []) := by
    intro  H locs ls  hT hV hC hl
    have hT : sp_X7_met M a1 = sp_X7_met_B115 1 := hT
    have hV : vc_X7_met_B115 1 := hV
    refine lv_iconst (v := 1) hx hb dX7_met_110 (by decide) ?_
    refine lv_goto (tgt := 115) hx hb dX7_met_111 (by decide) ?_
    exact J115 1 _ _ _  hT hV hC (lv_sub hl [] rfl)
  have J101 : ∀ (x1 : Int32) (x2 : Int32) (H : Heap) (locs : List Loc) (ls : Array Slot) (hT : sp_X7_met M a1 = sp_X7_met_B101 x1 x2) (hV : vc_X7_met_B101 x1 x2) (hC : Cx D cy ad R0 L (fA ad L s.heap.size) s M H locs) (hl : lv_has ls 4 [(2, .int x1)]), W p l e ({ frames := 0, cells := 0, slots := 0, locals := 0 }) s m ([.ref (ad 20), .int a1] : List Value).toArray below meth c H locs 0 0 (MQ below (va_Qi (fun r N => r = sp_X7_met M a1 ∧ N = M) (OW D cy ad L s.heap.size) (fA ad L s.heap.size)) ([.ref (ad 20), .int a1] : List Value).toArray s 0 0 (fA ad L s.heap.size)) (F0 m 101 ls [.int x2]) := by
    intro x1 x2 H locs ls  hT hV hC hl
    have hT : sp_X7_met M a1 = if x1 = 0 then (if x2 = 0 then (sp_X7_met_B115 0) else sp_X7_met_B110) else sp_X7_met_B110 := hT
    have hV : if x1 = 0 then (if x2 = 0 then vc_X7_met_B115 0 else vc_X7_met_B110) else vc_X7_met_B110 := hV
    refine lv_istore_n (lv' := [(3, .int x2), (2, .int x1)]) hx hb dX7_met_101 rfl hl (by decide) rfl (fun ls hl => ?_)
    refine lv_iload_n hx hb dX7_met_102 rfl (lv_at hl 1 rfl) ?_
    refine lv_if_ne (tgt := 110) hx hb dX7_met_103 (by decide) (fun c103 => ?_) (fun c103 => ?_)
    · have hT : sp_X7_met M a1 = sp_X7_met_B110 := hT.trans (if_neg c103)
      have hV : vc_X7_met_B110 := iteF hV c103
      exact J110  _ _ _  hT hV hC (lv_sub hl [] rfl)
    · have hT : sp_X7_met M a1 = if x2 = 0 then (sp_X7_met_B115 0) else sp_X7_met_B110 := hT.trans (if_pos c103)
      have hV : if x2 = 0 then vc_X7_met_B115 0 else vc_X7_met_B110 := iteT hV c103
      refine lv_iload_n hx hb dX7_met_106 rfl (lv_at hl 0 rfl) ?_
      refine lv_if_eq (tgt := 114) hx hb dX7_met_107 (by decide) (fun c107 => ?_) (fun c107 => ?_)
      · have hT : sp_X7_met M a1 = sp_X7_met_B115 0 := hT.trans (if_pos c107)
        have hV : vc_X7_met_B115 0 := iteT hV c107
        refine lv_iconst (v := 0) hx hb dX7_met_114 (by decide) ?_
        exact J115 0 _ _ _  hT hV hC (lv_sub hl [] rfl)
      · have hT : sp_X7_met M a1 = sp_X7_met_B110 := hT.trans (if_neg c107)
        have hV : vc_X7_met_B110 := iteF hV c107
        exact J110  _ _ _  hT hV hC (lv_sub hl [] rfl)
  have J100 : ∀ (x1 : Int32) (H : Heap) (locs : List Loc) (ls : Array Slot) (hT : sp_X7_met M a1 = sp_X7_met_B100 x1) (hV : vc_X7_met_B100 x1) (hC : Cx D cy ad R0 L (fA ad L s.heap.size) s M H locs) (hl : lv_has ls 4 [(2, .int x1)]), W p l e ({ frames := 0, cells := 0, slots := 0, locals := 0 }) s m ([.ref (ad 20), .int a1] : List Value).toArray below meth c H locs 0 0 (MQ below (va_Qi (fun r N => r = sp_X7_met M a1 ∧ N = M) (OW D cy ad L s.heap.size) (fA ad L s.heap.size)) ([.ref (ad 20), .int a1] : List Value).toArray s 0 0 (fA ad L s.heap.size)) (F0 m 100 ls []) := by
    intro x1 H locs ls  hT hV hC hl
    have hT : sp_X7_met M a1 = sp_X7_met_B101 x1 0 := hT
    have hV : vc_X7_met_B101 x1 0 := hV
    refine lv_iconst (v := 0) hx hb dX7_met_100 (by decide) ?_
    exact J101 x1 0 _ _ _  hT hV hC (lv_sub hl [0] rfl)
  have J35 : ∀ (x1 : Int32) (H : Heap) (locs : List Loc) (ls : Array Slot) (hT : sp_X7_met M a1 = sp_X7_met_B35 M a1 x1) (hV : vc_X7_met_B35 M a1 x1) (hC : Cx D cy ad R0 L (fA ad L s.heap.size) s M H locs) (hl : lv_has ls 4 [(0, .ref (ad 20)), (1, .int a1)]), W p l e ({ frames := 0, cells := 0, slots := 0, locals := 0 }) s m ([.ref (ad 20), .int a1] : List Value).toArray below meth c H locs 0 0 (MQ below (va_Qi (fun r N => r = sp_X7_met M a1 ∧ N = M) (OW D cy ad L s.heap.size) (fA ad L s.heap.size)) ([.ref (ad 20), .int a1] : List Value).toArray s 0 0 (fA ad L s.heap.size)) (F0 m 35 ls [.int x1]) := by
    intro x1 H locs ls  hT hV hC hl
    have hT : sp_X7_met M a1 = if (gI M 23 a1.toNatClampNeg) = (gI M 30 0) then (if (gI M 24 a1.toNatClampNeg) = (gI M 31 0) then (if (gI M 23 0) = (gI M 30 a1.toNatClampNeg) then (if (gI M 24 0) = (gI M 31 a1.toNatClampNeg) then (sp_X7_met_B101 x1 1) else (sp_X7_met_B100 x1)) else (sp_X7_met_B100 x1)) else (sp_X7_met_B100 x1)) else (sp_X7_met_B100 x1) := hT
    have hV : vp_in a1 5 ∧ (if (gI M 23 a1.toNatClampNeg) = (gI M 30 0) then (vp_in a1 5 ∧ (if (gI M 24 a1.toNatClampNeg) = (gI M 31 0) then (vp_in a1 5 ∧ (if (gI M 23 0) = (gI M 30 a1.toNatClampNeg) then (vp_in a1 5 ∧ (if (gI M 24 0) = (gI M 31 a1.toNatClampNeg) then vc_X7_met_B101 x1 1 else vc_X7_met_B100 x1)) else vc_X7_met_B100 x1)) else vc_X7_met_B100 x1)) else vc_X7_met_B100 x1) := hV
    refine lv_istore_n (lv' := [(2, .int x1), (0, .ref (ad 20)), (1, .int a1)]) hx hb dX7_met_35 rfl hl (by decide) rfl (fun ls hl => ?_)
    refine lv_aload_n hx hb dX7_met_36 rfl (lv_at hl 1 rfl) ?_
    refine q_getr (T := TX7) hx hb hB uw_X7 hown hK hC rfl (hL 20 (by decide) (by decide)) rfl 16 (by decide) rfl rfl (hB _ mw_3_60) dX7_met_37 ?_
    refine lv_iload_n hx hb dX7_met_40 rfl (lv_at hl 2 rfl) ?_
    obtain ⟨w41, hV⟩ : vp_in a1 5 ∧ (if (gI M 23 a1.toNatClampNeg) = (gI M 30 0) then (vp_in a1 5 ∧ (if (gI M 24 a1.toNatClampNeg) = (gI M 31 0) then (vp_in a1 5 ∧ (if (gI M 23 0) = (gI M 30 a1.toNatClampNeg) then (vp_in a1 5 ∧ (if (gI M 24 0) = (gI M 31 a1.toNatClampNeg) then vc_X7_met_B101 x1 1 else vc_X7_met_B100 x1)) else vc_X7_met_B100 x1)) else vc_X7_met_B100 x1)) else vc_X7_met_B100 x1) := hV
    refine q_iald hx hb hK hC rfl (hL 23 (by decide) (by decide)) rfl w41 rfl dX7_met_41 ?_
    refine lv_aload_n hx hb dX7_met_42 rfl (lv_at hl 1 rfl) ?_
    refine q_getr (T := TX7) hx hb hB uw_X7 hown hK hC rfl (hL 20 (by decide) (by decide)) rfl 23 (by decide) rfl rfl (hB _ mw_3_67) dX7_met_43 ?_
    refine lv_iconst (v := 0) hx hb dX7_met_46 (by decide) ?_
    refine q_iald (k := 0) hx hb hK hC rfl (hL 30 (by decide) (by decide)) rfl (by unfold vp_in; decide) (by decide) dX7_met_47 ?_
    refine lv_icmp_ne (tgt := 100) hx hb dX7_met_48 (by decide) (fun c48 => ?_) (fun c48 => ?_)
    · have hT : sp_X7_met M a1 = sp_X7_met_B100 x1 := hT.trans (if_neg c48)
      have hV : vc_X7_met_B100 x1 := iteF hV c48
      exact J100 x1 _ _ _  hT hV hC (lv_sub hl [0] rfl)
    · have hT : sp_X7_met M a1 = if (gI M 24 a1.toNatClampNeg) = (gI M 31 0) then (if (gI M 23 0) = (gI M 30 a1.toNatClampNeg) then (if (gI M 24 0) = (gI M 31 a1.toNatClampNeg) then (sp_X7_met_B101 x1 1) else (sp_X7_met_B100 x1)) else (sp_X7_met_B100 x1)) else (sp_X7_met_B100 x1) := hT.trans (if_pos c48)
      have hV : vp_in a1 5 ∧ (if (gI M 24 a1.toNatClampNeg) = (gI M 31 0) then (vp_in a1 5 ∧ (if (gI M 23 0) = (gI M 30 a1.toNatClampNeg) then (vp_in a1 5 ∧ (if (gI M 24 0) = (gI M 31 a1.toNatClampNeg) then vc_X7_met_B101 x1 1 else vc_X7_met_B100 x1)) else vc_X7_met_B100 x1)) else vc_X7_met_B100 x1) := iteT hV c48
      refine lv_aload_n hx hb dX7_met_51 rfl (lv_at hl 1 rfl) ?_
      refine q_getr (T := TX7) hx hb hB uw_X7 hown hK hC rfl (hL 20 (by decide) (by decide)) rfl 17 (by decide) rfl rfl (hB _ mw_3_61) dX7_met_52 ?_
      refine lv_iload_n hx hb dX7_met_55 rfl (lv_at hl 2 rfl) ?_
      obtain ⟨w56, hV⟩ : vp_in a1 5 ∧ (if (gI M 24 a1.toNatClampNeg) = (gI M 31 0) then (vp_in a1 5 ∧ (if (gI M 23 0) = (gI M 30 a1.toNatClampNeg) then (vp_in a1 5 ∧ (if (gI M 24 0) = (gI M 31 a1.toNatClampNeg) then vc_X7_met_B101 x1 1 else vc_X7_met_B100 x1)) else vc_X7_met_B100 x1)) else vc_X7_met_B100 x1) := hV
      refine q_iald hx hb hK hC rfl (hL 24 (by decide) (by decide)) rfl w56 rfl dX7_met_56 ?_
      refine lv_aload_n hx hb dX7_met_57 rfl (lv_at hl 1 rfl) ?_
      refine q_getr (T := TX7) hx hb hB uw_X7 hown hK hC rfl (hL 20 (by decide) (by decide)) rfl 24 (by decide) rfl rfl (hB _ mw_3_68) dX7_met_58 ?_
      refine lv_iconst (v := 0) hx hb dX7_met_61 (by decide) ?_
      refine q_iald (k := 0) hx hb hK hC rfl (hL 31 (by decide) (by decide)) rfl (by unfold vp_in; decide) (by decide) dX7_met_62 ?_
      refine lv_icmp_ne (tgt := 100) hx hb dX7_met_63 (by decide) (fun c63 => ?_) (fun c63 => ?_)
      · have hT : sp_X7_met M a1 = sp_X7_met_B100 x1 := hT.trans (if_neg c63)
        have hV : vc_X7_met_B100 x1 := iteF hV c63
        exact J100 x1 _ _ _  hT hV hC (lv_sub hl [0] rfl)
      · have hT : sp_X7_met M a1 = if (gI M 23 0) = (gI M 30 a1.toNatClampNeg) then (if (gI M 24 0) = (gI M 31 a1.toNatClampNeg) then (sp_X7_met_B101 x1 1) else (sp_X7_met_B100 x1)) else (sp_X7_met_B100 x1) := hT.trans (if_pos c63)
        have hV : vp_in a1 5 ∧ (if (gI M 23 0) = (gI M 30 a1.toNatClampNeg) then (vp_in a1 5 ∧ (if (gI M 24 0) = (gI M 31 a1.toNatClampNeg) then vc_X7_met_B101 x1 1 else vc_X7_met_B100 x1)) else vc_X7_met_B100 x1) := iteT hV c63
        refine lv_aload_n hx hb dX7_met_66 rfl (lv_at hl 1 rfl) ?_
        refine q_getr (T := TX7) hx hb hB uw_X7 hown hK hC rfl (hL 20 (by decide) (by decide)) rfl 16 (by decide) rfl rfl (hB _ mw_3_60) dX7_met_67 ?_
        refine lv_iconst (v := 0) hx hb dX7_met_70 (by decide) ?_
        refine q_iald (k := 0) hx hb hK hC rfl (hL 23 (by decide) (by decide)) rfl (by unfold vp_in; decide) (by decide) dX7_met_71 ?_
        refine lv_aload_n hx hb dX7_met_72 rfl (lv_at hl 1 rfl) ?_
        refine q_getr (T := TX7) hx hb hB uw_X7 hown hK hC rfl (hL 20 (by decide) (by decide)) rfl 23 (by decide) rfl rfl (hB _ mw_3_67) dX7_met_73 ?_
        refine lv_iload_n hx hb dX7_met_76 rfl (lv_at hl 2 rfl) ?_
        obtain ⟨w77, hV⟩ : vp_in a1 5 ∧ (if (gI M 23 0) = (gI M 30 a1.toNatClampNeg) then (vp_in a1 5 ∧ (if (gI M 24 0) = (gI M 31 a1.toNatClampNeg) then vc_X7_met_B101 x1 1 else vc_X7_met_B100 x1)) else vc_X7_met_B100 x1) := hV
        refine q_iald hx hb hK hC rfl (hL 30 (by decide) (by decide)) rfl w77 rfl dX7_met_77 ?_
        refine lv_icmp_ne (tgt := 100) hx hb dX7_met_78 (by decide) (fun c78 => ?_) (fun c78 => ?_)
        · have hT : sp_X7_met M a1 = sp_X7_met_B100 x1 := hT.trans (if_neg c78)
          have hV : vc_X7_met_B100 x1 := iteF hV c78
          exact J100 x1 _ _ _  hT hV hC (lv_sub hl [0] rfl)
        · have hT : sp_X7_met M a1 = if (gI M 24 0) = (gI M 31 a1.toNatClampNeg) then (sp_X7_met_B101 x1 1) else (sp_X7_met_B100 x1) := hT.trans (if_pos c78)
          have hV : vp_in a1 5 ∧ (if (gI M 24 0) = (gI M 31 a1.toNatClampNeg) then vc_X7_met_B101 x1 1 else vc_X7_met_B100 x1) := iteT hV c78
          refine lv_aload_n hx hb dX7_met_81 rfl (lv_at hl 1 rfl) ?_
          refine q_getr (T := TX7) hx hb hB uw_X7 hown hK hC rfl (hL 20 (by decide) (by decide)) rfl 17 (by decide) rfl rfl (hB _ mw_3_61) dX7_met_82 ?_
          refine lv_iconst (v := 0) hx hb dX7_met_85 (by decide) ?_
          refine q_iald (k := 0) hx hb hK hC rfl (hL 24 (by decide) (by decide)) rfl (by unfold vp_in; decide) (by decide) dX7_met_86 ?_
          refine lv_aload_n hx hb dX7_met_87 rfl (lv_at hl 1 rfl) ?_
          refine q_getr (T := TX7) hx hb hB uw_X7 hown hK hC rfl (hL 20 (by decide) (by decide)) rfl 24 (by decide) rfl rfl (hB _ mw_3_68) dX7_met_88 ?_
          refine lv_iload_n hx hb dX7_met_91 rfl (lv_at hl 2 rfl) ?_
          obtain ⟨w92, hV⟩ : vp_in a1 5 ∧ (if (gI M 24 0) = (gI M 31 a1.toNatClampNeg) then vc_X7_met_B101 x1 1 else vc_X7_met_B100 x1) := hV
          refine q_iald hx hb hK hC rfl (hL 31 (by decide) (by decide)) rfl w92 rfl dX7_met_92 ?_
          refine lv_icmp_ne (tgt := 100) hx hb dX7_met_93 (by decide) (fun c93 => ?_) (fun c93 => ?_)
          · have hT : sp_X7_met M a1 = sp_X7_met_B100 x1 := hT.trans (if_neg c93)
            have hV : vc_X7_met_B100 x1 := iteF hV c93
            exact J100 x1 _ _ _  hT hV hC (lv_sub hl [0] rfl)
          · have hT : sp_X7_met M a1 = sp_X7_met_B101 x1 1 := hT.trans (if_pos c93)
            have hV : vc_X7_met_B101 x1 1 := iteT hV c93
            refine lv_iconst (v := 1) hx hb dX7_met_96 (by decide) ?_
            refine lv_goto (tgt := 101) hx hb dX7_met_97 (by decide) ?_
            exact J101 x1 1 _ _ _  hT hV hC (lv_sub hl [0] rfl)
  have J34 : ∀  (H : Heap) (locs : List Loc) (ls : Array Slot) (hT : sp_X7_met M a1 = sp_X7_met_B34 M a1) (hV : vc_X7_met_B34 M a1) (hC : Cx D cy ad R0 L (fA ad L s.heap.size) s M H locs) (hl : lv_has ls 4 [(0, .ref (ad 20)), (1, .int a1)]), W p l e ({ frames := 0, cells := 0, slots := 0, locals := 0 }) s m ([.ref (ad 20), .int a1] : List Value).toArray below meth c H locs 0 0 (MQ below (va_Qi (fun r N => r = sp_X7_met M a1 ∧ N = M) (OW D cy ad L s.heap.size) (fA ad L s.heap.size)) ([.ref (ad 20), .int a1] : List Value).toArray s 0 0 (fA ad L s.heap.size)) (F0 m 34 ls []) := by
    intro  H locs ls  hT hV hC hl
    have hT : sp_X7_met M a1 = sp_X7_met_B35 M a1 0 := hT
    have hV : vc_X7_met_B35 M a1 0 := hV
    refine lv_iconst (v := 0) hx hb dX7_met_34 (by decide) ?_
    exact J35 0 _ _ _  hT hV hC (lv_sub hl [0, 1] rfl)
  have hT : sp_X7_met M a1 = if (gI M 23 a1.toNatClampNeg) = (gI M 23 0) then (if (gI M 24 a1.toNatClampNeg) = (gI M 24 0) then (sp_X7_met_B35 M a1 1) else (sp_X7_met_B34 M a1)) else (sp_X7_met_B34 M a1) := rfl
  have hV : vp_in a1 5 ∧ (if (gI M 23 a1.toNatClampNeg) = (gI M 23 0) then (vp_in a1 5 ∧ (if (gI M 24 a1.toNatClampNeg) = (gI M 24 0) then vc_X7_met_B35 M a1 1 else vc_X7_met_B34 M a1)) else vc_X7_met_B34 M a1) := hV
  refine lv_aload_n hx hb dX7_met_0 rfl (lv_at hl 0 rfl) ?_
  refine q_getr (T := TX7) hx hb hB uw_X7 hown hK hC rfl (hL 20 (by decide) (by decide)) rfl 16 (by decide) rfl rfl (hB _ mw_3_60) dX7_met_1 ?_
  refine lv_iload_n hx hb dX7_met_4 rfl (lv_at hl 1 rfl) ?_
  obtain ⟨w5, hV⟩ : vp_in a1 5 ∧ (if (gI M 23 a1.toNatClampNeg) = (gI M 23 0) then (vp_in a1 5 ∧ (if (gI M 24 a1.toNatClampNeg) = (gI M 24 0) then vc_X7_met_B35 M a1 1 else vc_X7_met_B34 M a1)) else vc_X7_met_B34 M a1) := hV
  refine q_iald hx hb hK hC rfl (hL 23 (by decide) (by decide)) rfl w5 rfl dX7_met_5 ?_
  refine lv_aload_n hx hb dX7_met_6 rfl (lv_at hl 0 rfl) ?_
  refine q_getr (T := TX7) hx hb hB uw_X7 hown hK hC rfl (hL 20 (by decide) (by decide)) rfl 16 (by decide) rfl rfl (hB _ mw_3_60) dX7_met_7 ?_
  refine lv_iconst (v := 0) hx hb dX7_met_10 (by decide) ?_
  refine q_iald (k := 0) hx hb hK hC rfl (hL 23 (by decide) (by decide)) rfl (by unfold vp_in; decide) (by decide) dX7_met_11 ?_
  refine lv_icmp_ne (tgt := 34) hx hb dX7_met_12 (by decide) (fun c12 => ?_) (fun c12 => ?_)
  · have hT : sp_X7_met M a1 = sp_X7_met_B34 M a1 := hT.trans (if_neg c12)
    have hV : vc_X7_met_B34 M a1 := iteF hV c12
    exact J34  _ _ _  hT hV hC (lv_sub hl [0, 1] rfl)
  · have hT : sp_X7_met M a1 = if (gI M 24 a1.toNatClampNeg) = (gI M 24 0) then (sp_X7_met_B35 M a1 1) else (sp_X7_met_B34 M a1) := hT.trans (if_pos c12)
    have hV : vp_in a1 5 ∧ (if (gI M 24 a1.toNatClampNeg) = (gI M 24 0) then vc_X7_met_B35 M a1 1 else vc_X7_met_B34 M a1) := iteT hV c12
    refine lv_aload_n hx hb dX7_met_15 rfl (lv_at hl 0 rfl) ?_
    refine q_getr (T := TX7) hx hb hB uw_X7 hown hK hC rfl (hL 20 (by decide) (by decide)) rfl 17 (by decide) rfl rfl (hB _ mw_3_61) dX7_met_16 ?_
    refine lv_iload_n hx hb dX7_met_19 rfl (lv_at hl 1 rfl) ?_
    obtain ⟨w20, hV⟩ : vp_in a1 5 ∧ (if (gI M 24 a1.toNatClampNeg) = (gI M 24 0) then vc_X7_met_B35 M a1 1 else vc_X7_met_B34 M a1) := hV
    refine q_iald hx hb hK hC rfl (hL 24 (by decide) (by decide)) rfl w20 rfl dX7_met_20 ?_
    refine lv_aload_n hx hb dX7_met_21 rfl (lv_at hl 0 rfl) ?_
    refine q_getr (T := TX7) hx hb hB uw_X7 hown hK hC rfl (hL 20 (by decide) (by decide)) rfl 17 (by decide) rfl rfl (hB _ mw_3_61) dX7_met_22 ?_
    refine lv_iconst (v := 0) hx hb dX7_met_25 (by decide) ?_
    refine q_iald (k := 0) hx hb hK hC rfl (hL 24 (by decide) (by decide)) rfl (by unfold vp_in; decide) (by decide) dX7_met_26 ?_
    refine lv_icmp_ne (tgt := 34) hx hb dX7_met_27 (by decide) (fun c27 => ?_) (fun c27 => ?_)
    · have hT : sp_X7_met M a1 = sp_X7_met_B34 M a1 := hT.trans (if_neg c27)
      have hV : vc_X7_met_B34 M a1 := iteF hV c27
      exact J34  _ _ _  hT hV hC (lv_sub hl [0, 1] rfl)
    · have hT : sp_X7_met M a1 = sp_X7_met_B35 M a1 1 := hT.trans (if_pos c27)
      have hV : vc_X7_met_B35 M a1 1 := iteT hV c27
      refine lv_iconst (v := 1) hx hb dX7_met_30 (by decide) ?_
      refine lv_goto (tgt := 35) hx hb dX7_met_31 (by decide) ?_
      exact J35 1 _ _ _  hT hV hC (lv_sub hl [0, 1] rfl)
set_option maxHeartbeats 4000000 in
set_option maxRecDepth 100000 in
theorem c_X7_meet (l : Launch) (D : va_G) (cy ad : Nat → Nat) (L : List Nat) (sz : Nat) (hL : lr 20 34 L) (M : Mem)  (hV : vc_X7_meet M ) : Met l yX7_meet (Cond.code yX7_meet cX7_meet 2 (none) :: BG) ({ frames := 2, cells := 0, slots := 0, locals := 45 }) (va_Pc [.ref (ad 20)] (PW D cy ad L M sz)) (va_Qv (fun N => N = sp_X7_meet M) (OW D cy ad L sz) (fA ad L sz)) 0 0 (fA ad L sz) := by
  refine q_start (by decide) (Nat.le_of_ble_eq_true rfl) (fun p e s m below meth c H locs ls hsz hx hb hr hlocks hml hown hB hK hE hC hl => ?_)
  subst hsz
  have hown : s.vm.findClass "MazeBoardModel" = some m.cls := hown
  have hl : lv_has ls 2 [(0, .ref (ad 20))] := hl
  have J147 : ∀ (M15 : Mem) (H : Heap) (locs : List Loc) (ls : Array Slot) (hT : sp_X7_meet M = sp_X7_meet_B147 M15) (hC : Cx D cy ad R0 L (fA ad L s.heap.size) s M15 H locs) (hl : lv_has ls 2 []), W p l e ({ frames := 2, cells := 0, slots := 0, locals := 45 }) s m ([.ref (ad 20)] : List Value).toArray below meth c H locs 0 0 (MQ below (va_Qv (fun N => N = sp_X7_meet M) (OW D cy ad L s.heap.size) (fA ad L s.heap.size)) ([.ref (ad 20)] : List Value).toArray s 0 0 (fA ad L s.heap.size)) (F0 m 147 ls []) := by
    intro M15 H locs ls  hT hC hl
    have hT : sp_X7_meet M = M15 := hT
    exact q_retv hx hb hr hlocks hC hT.symm dX7_meet_147
  have J129 : ∀ (M2 : Mem) (H : Heap) (locs : List Loc) (ls : Array Slot) (hT : sp_X7_meet M = sp_X7_meet_B129 M2) (hV : vc_X7_meet_B129 M2) (hC : Cx D cy ad R0 L (fA ad L s.heap.size) s M2 H locs) (hl : lv_has ls 2 [(0, .ref (ad 20))]), W p l e ({ frames := 2, cells := 0, slots := 0, locals := 45 }) s m ([.ref (ad 20)] : List Value).toArray below meth c H locs 0 0 (MQ below (va_Qv (fun N => N = sp_X7_meet M) (OW D cy ad L s.heap.size) (fA ad L s.heap.size)) ([.ref (ad 20)] : List Value).toArray s 0 0 (fA ad L s.heap.size)) (F0 m 129 ls []) := by
    intro M2 H locs ls  hT hV hC hl
    have hT : sp_X7_meet M = if (gI M2 20 30) = 0 then (sp_X7_meet_B147 M2) else (if (gI M2 20 3) = 0 then (sp_X7_meet_B147 M2) else (sp_X7_meet_n1 (sp_X7_place M2))) := hT
    have hV : if (gI M2 20 30) = 0 then True else (if (gI M2 20 3) = 0 then True else vc_X7_place M2) := hV
    refine lv_aload_n hx hb dX7_meet_129 rfl (lv_at hl 0 rfl) ?_
    refine q_geti (T := TX7) hx hb hB uw_X7 hown hK hC rfl (hL 20 (by decide) (by decide)) rfl 30 (by decide) rfl (hB _ mw_3_74) dX7_meet_130 ?_
    refine lv_if_eq (tgt := 147) hx hb dX7_meet_133 (by decide) (fun c133 => ?_) (fun c133 => ?_)
    · have hT : sp_X7_meet M = sp_X7_meet_B147 M2 := hT.trans (if_pos c133)
      exact J147 M2 _ _ _  hT hC (lv_sub hl [] rfl)
    · have hT : sp_X7_meet M = if (gI M2 20 3) = 0 then (sp_X7_meet_B147 M2) else (sp_X7_meet_n1 (sp_X7_place M2)) := hT.trans (if_neg c133)
      have hV : if (gI M2 20 3) = 0 then True else vc_X7_place M2 := iteF hV c133
      refine lv_aload_n hx hb dX7_meet_136 rfl (lv_at hl 0 rfl) ?_
      refine q_geti (T := TX7) hx hb hB uw_X7 hown hK hC rfl (hL 20 (by decide) (by decide)) rfl 3 (by decide) rfl (hB _ mw_3_47) dX7_meet_137 ?_
      refine lv_if_eq (tgt := 147) hx hb dX7_meet_140 (by decide) (fun c140 => ?_) (fun c140 => ?_)
      · have hT : sp_X7_meet M = sp_X7_meet_B147 M2 := hT.trans (if_pos c140)
        exact J147 M2 _ _ _  hT hC (lv_sub hl [] rfl)
      · have hT : sp_X7_meet M = sp_X7_meet_n1 (sp_X7_place M2) := hT.trans (if_neg c140)
        have hV : vc_X7_place M2 := iteF hV c140
        refine lv_aload_n hx hb dX7_meet_143 rfl (lv_at hl 0 rfl) ?_
        have v144 : vc_X7_place M2 := hV
        refine q_Cv (q_V (own := "MazeBoardModel") (y := yX7_place) (As := []) (rest := []) ⟨hx, hb, hml, hown, hB⟩ hK hE hC (c_X7_place l D cy ad L H.size (hL.sub (by decide) (by decide)) M2  v144) rfl (hL 20 (by decide) (by decide)) rfl mw_3_36 mw_3_38 mw_0_25 mw_1_7 mw_3_39 rfl yd_X7_place ⟨rfl, rfl⟩ ⟨Nat.le_of_ble_eq_true rfl, Nat.le_of_ble_eq_true rfl⟩ rfl hl.1 rfl (Nat.le_of_ble_eq_true rfl) dX7_meet_144 ⟨Nat.le_refl _, Nat.le_refl _⟩) hC (fun M14 H locs eM14 hC => ?_)
        have hT : sp_X7_meet M = sp_X7_meet_n1 M14 := by rw [eM14]; exact hT
        exact J147 M14 _ _ _  hT hC (lv_sub hl [] rfl)
  have J2 : ∀ (n : Nat) (x1 : Int32) (M2 : Mem) (H : Heap) (locs : List Loc) (ls : Array Slot) (hT : sp_X7_meet M = sp_X7_meet_B2 n x1 M2) (hV : vc_X7_meet_B2 n x1 M2) (hC : Cx D cy ad R0 L (fA ad L s.heap.size) s M2 H locs) (hl : lv_has ls 2 [(0, .ref (ad 20)), (1, .int x1)]), W p l e ({ frames := 2, cells := 0, slots := 0, locals := 45 }) s m ([.ref (ad 20)] : List Value).toArray below meth c H locs 0 0 (MQ below (va_Qv (fun N => N = sp_X7_meet M) (OW D cy ad L s.heap.size) (fA ad L s.heap.size)) ([.ref (ad 20)] : List Value).toArray s 0 0 (fA ad L s.heap.size)) (F0 m 2 ls []) := by
    intro n
    induction n with
    | zero => intro x1 M2 H locs ls  hT hV; exact hV.elim
    | succ n ih =>
      have J123 : ∀ (x1 : Int32) (M12 : Mem) (H : Heap) (locs : List Loc) (ls : Array Slot) (hT : sp_X7_meet M = sp_X7_meet_B123 (sp_X7_meet_B2 n) x1 M12) (hV : vc_X7_meet_B123 (vc_X7_meet_B2 n) x1 M12) (hC : Cx D cy ad R0 L (fA ad L s.heap.size) s M12 H locs) (hl : lv_has ls 2 [(0, .ref (ad 20)), (1, .int x1)]), W p l e ({ frames := 2, cells := 0, slots := 0, locals := 45 }) s m ([.ref (ad 20)] : List Value).toArray below meth c H locs 0 0 (MQ below (va_Qv (fun N => N = sp_X7_meet M) (OW D cy ad L s.heap.size) (fA ad L s.heap.size)) ([.ref (ad 20)] : List Value).toArray s 0 0 (fA ad L s.heap.size)) (F0 m 123 ls []) := by
        intro x1 M12 H locs ls  hT hV hC hl
        have hT : sp_X7_meet M = sp_X7_meet_n2 (sp_X7_meet_B2 n) M12 (x1 + 1) := hT
        have hV : vc_X7_meet_n2 (vc_X7_meet_B2 n) M12 (x1 + 1) := hV
        obtain ⟨x13, ex13⟩ : ∃ z : Int32, z = x1 + 1 := ⟨_, rfl⟩
        have hT : sp_X7_meet M = sp_X7_meet_n2 (sp_X7_meet_B2 n) M12 x13 := by rw [ex13]; exact hT
        have hV : vc_X7_meet_n2 (vc_X7_meet_B2 n) M12 x13 := by rw [ex13]; exact hV
        refine lv_iinc (v := x13) (lv' := [(1, .int x13), (0, .ref (ad 20))]) hx hb dX7_meet_123 hl (k := 1) rfl (by rw [ex13]; rfl) (by decide) rfl (fun ls hl => ?_)
        refine lv_goto (tgt := 2) hx hb dX7_meet_126 (by decide) ?_
        exact ih x13 M12 _ _ _  hT hV hC (lv_sub hl [1, 0] rfl)
      have J120 : ∀ (x1 : Int32) (M9 : Mem) (x10 : Int32) (H : Heap) (locs : List Loc) (ls : Array Slot) (hT : sp_X7_meet M = sp_X7_meet_B120 (sp_X7_meet_B2 n) x1 M9 x10) (hV : vc_X7_meet_B120 (vc_X7_meet_B2 n) x1 M9 x10) (hC : Cx D cy ad R0 L (fA ad L s.heap.size) s M9 H locs) (hl : lv_has ls 2 [(0, .ref (ad 20)), (1, .int x1)]), W p l e ({ frames := 2, cells := 0, slots := 0, locals := 45 }) s m ([.ref (ad 20)] : List Value).toArray below meth c H locs 0 0 (MQ below (va_Qv (fun N => N = sp_X7_meet M) (OW D cy ad L s.heap.size) (fA ad L s.heap.size)) ([.ref (ad 20)] : List Value).toArray s 0 0 (fA ad L s.heap.size)) (F0 m 120 ls [.int x10, .ref (ad 20)]) := by
        intro x1 M9 x10 H locs ls  hT hV hC hl
        have hT : sp_X7_meet M = sp_X7_meet_n3 (sp_X7_meet_B2 n) x1 (wI M9 20 3 x10) := hT
        have hV : (x10 = 0 ∨ x10 = 1) ∧ (vc_X7_meet_n3 (vc_X7_meet_B2 n) x1 (wI M9 20 3 x10)) := hV
        obtain ⟨w120, hV⟩ : (x10 = 0 ∨ x10 = 1) ∧ (vc_X7_meet_n3 (vc_X7_meet_B2 n) x1 (wI M9 20 3 x10)) := hV
        refine q_puti (T := TX7) hx hb hB uw_X7 tyX7 tyX7_ok nmX7 hown hK hC rfl (hL 20 (by decide) (by decide)) rfl 3 (by decide) rfl (hB _ mw_3_47) rfl rfl (bo_n w120) (bo_f w120) dX7_meet_120 (fun H locs hC => ?_)
        obtain ⟨M11, eM11⟩ : ∃ z : Mem, z = wI M9 20 3 x10 := ⟨_, rfl⟩
        rw [← eM11] at hC
        have hT : sp_X7_meet M = sp_X7_meet_n3 (sp_X7_meet_B2 n) x1 M11 := by rw [eM11]; exact hT
        have hV : vc_X7_meet_n3 (vc_X7_meet_B2 n) x1 M11 := by rw [eM11]; exact hV
        exact J123 x1 M11 _ _ _  hT hV hC (lv_sub hl [0, 1] rfl)
      have J84 : ∀ (x1 : Int32) (M2 : Mem) (H : Heap) (locs : List Loc) (ls : Array Slot) (hT : sp_X7_meet M = sp_X7_meet_B84 (sp_X7_meet_B2 n) x1 M2) (hV : vc_X7_meet_B84 (vc_X7_meet_B2 n) x1 M2) (hC : Cx D cy ad R0 L (fA ad L s.heap.size) s M2 H locs) (hl : lv_has ls 2 [(0, .ref (ad 20)), (1, .int x1)]), W p l e ({ frames := 2, cells := 0, slots := 0, locals := 45 }) s m ([.ref (ad 20)] : List Value).toArray below meth c H locs 0 0 (MQ below (va_Qv (fun N => N = sp_X7_meet M) (OW D cy ad L s.heap.size) (fA ad L s.heap.size)) ([.ref (ad 20)] : List Value).toArray s 0 0 (fA ad L s.heap.size)) (F0 m 84 ls []) := by
        intro x1 M2 H locs ls  hT hV hC hl
        have hT : sp_X7_meet M = if (sp_X7_met M2 x1) = 0 then (sp_X7_meet_B123 (sp_X7_meet_B2 n) x1 M2) else (sp_X7_meet_n5 (sp_X7_meet_B2 n) x1 (wI M2 20 30 1)) := hT
        have hV : vc_X7_met M2 x1 ∧ (if (sp_X7_met M2 x1) = 0 then vc_X7_meet_B123 (vc_X7_meet_B2 n) x1 M2 else (vc_X7_meet_n5 (vc_X7_meet_B2 n) x1 (wI M2 20 30 1))) := hV
        refine lv_aload_n hx hb dX7_meet_84 rfl (lv_at hl 0 rfl) ?_
        refine lv_iload_n hx hb dX7_meet_85 rfl (lv_at hl 1 rfl) ?_
        obtain ⟨v86, hV⟩ : vc_X7_met M2 x1 ∧ (if (sp_X7_met M2 x1) = 0 then vc_X7_meet_B123 (vc_X7_meet_B2 n) x1 M2 else (vc_X7_meet_n5 (vc_X7_meet_B2 n) x1 (wI M2 20 30 1))) := hV
        refine q_Ci (q_V (own := "MazeBoardModel") (y := yX7_met) (As := [.int x1]) (rest := []) ⟨hx, hb, hml, hown, hB⟩ hK hE hC (c_X7_met l D cy ad L H.size (hL.sub (by decide) (by decide)) M2 x1 v86) rfl (hL 20 (by decide) (by decide)) rfl mw_4_8 mw_4_10 mw_0_43 mw_1_7 mw_4_11 rfl yd_X7_met ⟨rfl, rfl⟩ ⟨Nat.le_of_ble_eq_true rfl, Nat.le_of_ble_eq_true rfl⟩ rfl hl.1 rfl (Nat.le_of_ble_eq_true rfl) dX7_meet_86 ⟨Nat.le_refl _, Nat.le_refl _⟩) hC (fun r N_ H locs hp hC => ?_)
        obtain ⟨hr_, hM_⟩ := hp
        subst hr_
        rw [hM_] at hC
        refine lv_if_eq (tgt := 123) hx hb dX7_meet_89 (by decide) (fun c89 => ?_) (fun c89 => ?_)
        · have hT : sp_X7_meet M = sp_X7_meet_B123 (sp_X7_meet_B2 n) x1 M2 := hT.trans (if_pos c89)
          have hV : vc_X7_meet_B123 (vc_X7_meet_B2 n) x1 M2 := iteT hV c89
          exact J123 x1 M2 _ _ _  hT hV hC (lv_sub hl [0, 1] rfl)
        · have hT : sp_X7_meet M = sp_X7_meet_n5 (sp_X7_meet_B2 n) x1 (wI M2 20 30 1) := hT.trans (if_neg c89)
          have hV : vc_X7_meet_n5 (vc_X7_meet_B2 n) x1 (wI M2 20 30 1) := iteF hV c89
          refine lv_aload_n hx hb dX7_meet_92 rfl (lv_at hl 0 rfl) ?_
          refine lv_iconst (v := 1) hx hb dX7_meet_93 (by decide) ?_
          refine q_puti (T := TX7) hx hb hB uw_X7 tyX7 tyX7_ok nmX7 hown hK hC rfl (hL 20 (by decide) (by decide)) rfl 30 (by decide) rfl (hB _ mw_3_74) rfl rfl (by decide) (by decide) dX7_meet_94 (fun H locs hC => ?_)
          obtain ⟨M8, eM8⟩ : ∃ z : Mem, z = wI M2 20 30 1 := ⟨_, rfl⟩
          rw [← eM8] at hC
          have hT : sp_X7_meet M = sp_X7_meet_n5 (sp_X7_meet_B2 n) x1 M8 := by rw [eM8]; exact hT
          have hV : vc_X7_meet_n5 (vc_X7_meet_B2 n) x1 M8 := by rw [eM8]; exact hV
          refine lv_aload_n hx hb dX7_meet_97 rfl (lv_at hl 0 rfl) ?_
          refine lv_dup hx hb dX7_meet_98 rfl ?_
          refine q_geti (T := TX7) hx hb hB uw_X7 hown hK hC rfl (hL 20 (by decide) (by decide)) rfl 7 (by decide) rfl (hB _ mw_3_51) dX7_meet_99 ?_
          refine lv_iconst (v := 1) hx hb dX7_meet_102 (by decide) ?_
          refine lv_isub hx hb dX7_meet_103 ?_
          refine q_puti (T := TX7) hx hb hB uw_X7 tyX7 tyX7_ok nmX7 hown hK hC rfl (hL 20 (by decide) (by decide)) rfl 7 (by decide) rfl (hB _ mw_3_51) rfl rfl rfl rfl dX7_meet_104 (fun H locs hC => ?_)
          obtain ⟨M9, eM9⟩ : ∃ z : Mem, z = wI M8 20 7 ((gI M8 20 7) - 1) := ⟨_, rfl⟩
          rw [← eM9] at hC
          have hT : sp_X7_meet M = sp_X7_meet_n4 (sp_X7_meet_B2 n) x1 M9 := by rw [eM9]; exact hT
          have hV : vc_X7_meet_n4 (vc_X7_meet_B2 n) x1 M9 := by rw [eM9]; exact hV
          refine lv_aload_n hx hb dX7_meet_107 rfl (lv_at hl 0 rfl) ?_
          refine lv_aload_n hx hb dX7_meet_108 rfl (lv_at hl 0 rfl) ?_
          refine q_geti (T := TX7) hx hb hB uw_X7 hown hK hC rfl (hL 20 (by decide) (by decide)) rfl 7 (by decide) rfl (hB _ mw_3_51) dX7_meet_109 ?_
          refine lv_if_le (tgt := 119) hx hb dX7_meet_112 (by decide) (fun c112 => ?_) (fun c112 => ?_)
          · have hT : sp_X7_meet M = sp_X7_meet_B120 (sp_X7_meet_B2 n) x1 M9 0 := hT.trans (if_pos c112)
            have hV : vc_X7_meet_B120 (vc_X7_meet_B2 n) x1 M9 0 := iteT hV c112
            refine lv_iconst (v := 0) hx hb dX7_meet_119 (by decide) ?_
            exact J120 x1 M9 0 _ _ _  hT hV hC (lv_sub hl [0, 1] rfl)
          · have hT : sp_X7_meet M = sp_X7_meet_B120 (sp_X7_meet_B2 n) x1 M9 1 := hT.trans (if_neg c112)
            have hV : vc_X7_meet_B120 (vc_X7_meet_B2 n) x1 M9 1 := iteF hV c112
            refine lv_iconst (v := 1) hx hb dX7_meet_115 (by decide) ?_
            refine lv_goto (tgt := 120) hx hb dX7_meet_116 (by decide) ?_
            exact J120 x1 M9 1 _ _ _  hT hV hC (lv_sub hl [0, 1] rfl)
      have J62 : ∀ (x1 : Int32) (M3 : Mem) (x4 : Int32) (H : Heap) (locs : List Loc) (ls : Array Slot) (hT : sp_X7_meet M = sp_X7_meet_B62 (sp_X7_meet_B2 n) x1 M3 x4) (hV : vc_X7_meet_B62 (vc_X7_meet_B2 n) x1 M3 x4) (hC : Cx D cy ad R0 L (fA ad L s.heap.size) s M3 H locs) (hl : lv_has ls 2 [(0, .ref (ad 20)), (1, .int x1)]), W p l e ({ frames := 2, cells := 0, slots := 0, locals := 45 }) s m ([.ref (ad 20)] : List Value).toArray below meth c H locs 0 0 (MQ below (va_Qv (fun N => N = sp_X7_meet M) (OW D cy ad L s.heap.size) (fA ad L s.heap.size)) ([.ref (ad 20)] : List Value).toArray s 0 0 (fA ad L s.heap.size)) (F0 m 62 ls [.int x4, .ref (ad 20)]) := by
        intro x1 M3 x4 H locs ls  hT hV hC hl
        have hT : sp_X7_meet M = sp_X7_meet_n8 (sp_X7_meet_B2 n) x1 (wI M3 20 11 x4) := hT
        have hV : vc_X7_meet_n8 (vc_X7_meet_B2 n) x1 (wI M3 20 11 x4) := hV
        refine q_puti (T := TX7) hx hb hB uw_X7 tyX7 tyX7_ok nmX7 hown hK hC rfl (hL 20 (by decide) (by decide)) rfl 11 (by decide) rfl (hB _ mw_3_55) rfl rfl rfl rfl dX7_meet_62 (fun H locs hC => ?_)
        obtain ⟨M5, eM5⟩ : ∃ z : Mem, z = wI M3 20 11 x4 := ⟨_, rfl⟩
        rw [← eM5] at hC
        have hT : sp_X7_meet M = sp_X7_meet_n8 (sp_X7_meet_B2 n) x1 M5 := by rw [eM5]; exact hT
        have hV : vc_X7_meet_n8 (vc_X7_meet_B2 n) x1 M5 := by rw [eM5]; exact hV
        refine lv_aload_n hx hb dX7_meet_65 rfl (lv_at hl 0 rfl) ?_
        refine lv_iload_n hx hb dX7_meet_66 rfl (lv_at hl 1 rfl) ?_
        refine lv_bipush (v := 6) hx hb dX7_meet_67 (by decide) ?_
        refine lv_iconst (v := 4) hx hb dX7_meet_69 (by decide) ?_
        refine lv_iconst (v := 0) hx hb dX7_meet_70 (by decide) ?_
        refine lv_bipush (v := 30) hx hb dX7_meet_71 (by decide) ?_
        obtain ⟨v73, hV⟩ : vc_X7_put M5 x1 6 4 0 30 ∧ (vc_X7_meet_n7 (vc_X7_meet_B2 n) x1 (sp_X7_put M5 x1 6 4 0 30)) := hV
        refine q_Cv (q_V (own := "MazeBoardModel") (y := yX7_put) (As := [.int x1, .int 6, .int 4, .int 0, .int 30]) (rest := []) ⟨hx, hb, hml, hown, hB⟩ hK hE hC (c_X7_put l D cy ad L H.size (hL.sub (by decide) (by decide)) M5 x1 6 4 0 30 v73) rfl (hL 20 (by decide) (by decide)) rfl mw_3_40 mw_3_42 mw_0_26 mw_1_7 mw_3_43 rfl yd_X7_put ⟨rfl, rfl⟩ ⟨Nat.le_of_ble_eq_true rfl, Nat.le_of_ble_eq_true rfl⟩ rfl hl.1 rfl (Nat.le_of_ble_eq_true rfl) dX7_meet_73 ⟨Nat.le_refl _, Nat.le_refl _⟩) hC (fun M6 H locs eM6 hC => ?_)
        have hT : sp_X7_meet M = sp_X7_meet_n7 (sp_X7_meet_B2 n) x1 M6 := by rw [eM6]; exact hT
        have hV : vc_X7_meet_n7 (vc_X7_meet_B2 n) x1 M6 := by rw [eM6]; exact hV
        refine lv_aload_n hx hb dX7_meet_76 rfl (lv_at hl 0 rfl) ?_
        refine lv_iconst (v := 1) hx hb dX7_meet_77 (by decide) ?_
        refine q_puti (T := TX7) hx hb hB uw_X7 tyX7 tyX7_ok nmX7 hown hK hC rfl (hL 20 (by decide) (by decide)) rfl 29 (by decide) rfl (hB _ mw_3_73) rfl rfl (by decide) (by decide) dX7_meet_78 (fun H locs hC => ?_)
        obtain ⟨M7, eM7⟩ : ∃ z : Mem, z = wI M6 20 29 1 := ⟨_, rfl⟩
        rw [← eM7] at hC
        have hT : sp_X7_meet M = sp_X7_meet_n6 (sp_X7_meet_B2 n) x1 M7 := by rw [eM7]; exact hT
        have hV : vc_X7_meet_n6 (vc_X7_meet_B2 n) x1 M7 := by rw [eM7]; exact hV
        refine lv_goto (tgt := 123) hx hb dX7_meet_81 (by decide) ?_
        exact J123 x1 M7 _ _ _  hT hV hC (lv_sub hl [0, 1] rfl)
      intro x1 M2 H locs ls  hT hV hC hl
      have hT : sp_X7_meet M = if 5 ≤ x1 then (sp_X7_meet_B129 M2) else (if (gI M2 20 30) = 0 then (if (sp_X7_met M2 x1) = 0 then (sp_X7_meet_B84 (sp_X7_meet_B2 n) x1 M2) else (if (gI M2 27 x1.toNatClampNeg) = 0 then (sp_X7_meet_B84 (sp_X7_meet_B2 n) x1 M2) else (sp_X7_meet_n9 (sp_X7_meet_B2 n) x1 (sp_X7_points M2 (200 <<< ((gI M2 20 11) &&& 31)))))) else (sp_X7_meet_B129 M2)) := hT
      have hV : if 5 ≤ x1 then vc_X7_meet_B129 M2 else (if (gI M2 20 30) = 0 then (vc_X7_met M2 x1 ∧ (if (sp_X7_met M2 x1) = 0 then vc_X7_meet_B84 (vc_X7_meet_B2 n) x1 M2 else (vp_in x1 5 ∧ (if (gI M2 27 x1.toNatClampNeg) = 0 then vc_X7_meet_B84 (vc_X7_meet_B2 n) x1 M2 else (vc_X7_meet_n9 (vc_X7_meet_B2 n) x1 (sp_X7_points M2 (200 <<< ((gI M2 20 11) &&& 31)))))))) else vc_X7_meet_B129 M2) := hV
      refine lv_iload_n hx hb dX7_meet_2 rfl (lv_at hl 1 rfl) ?_
      refine lv_iconst (v := 5) hx hb dX7_meet_3 (by decide) ?_
      refine lv_icmp_ge (tgt := 129) hx hb dX7_meet_4 (by decide) (fun c4 => ?_) (fun c4 => ?_)
      · have hT : sp_X7_meet M = sp_X7_meet_B129 M2 := hT.trans (if_pos c4)
        have hV : vc_X7_meet_B129 M2 := iteT hV c4
        exact J129 M2 _ _ _  hT hV hC (lv_sub hl [0] rfl)
      · have hT : sp_X7_meet M = if (gI M2 20 30) = 0 then (if (sp_X7_met M2 x1) = 0 then (sp_X7_meet_B84 (sp_X7_meet_B2 n) x1 M2) else (if (gI M2 27 x1.toNatClampNeg) = 0 then (sp_X7_meet_B84 (sp_X7_meet_B2 n) x1 M2) else (sp_X7_meet_n9 (sp_X7_meet_B2 n) x1 (sp_X7_points M2 (200 <<< ((gI M2 20 11) &&& 31)))))) else (sp_X7_meet_B129 M2) := hT.trans (if_neg c4)
        have hV : if (gI M2 20 30) = 0 then (vc_X7_met M2 x1 ∧ (if (sp_X7_met M2 x1) = 0 then vc_X7_meet_B84 (vc_X7_meet_B2 n) x1 M2 else (vp_in x1 5 ∧ (if (gI M2 27 x1.toNatClampNeg) = 0 then vc_X7_meet_B84 (vc_X7_meet_B2 n) x1 M2 else (vc_X7_meet_n9 (vc_X7_meet_B2 n) x1 (sp_X7_points M2 (200 <<< ((gI M2 20 11) &&& 31)))))))) else vc_X7_meet_B129 M2 := iteF hV c4
        refine lv_aload_n hx hb dX7_meet_7 rfl (lv_at hl 0 rfl) ?_
        refine q_geti (T := TX7) hx hb hB uw_X7 hown hK hC rfl (hL 20 (by decide) (by decide)) rfl 30 (by decide) rfl (hB _ mw_3_74) dX7_meet_8 ?_
        refine lv_if_ne (tgt := 129) hx hb dX7_meet_11 (by decide) (fun c11 => ?_) (fun c11 => ?_)
        · have hT : sp_X7_meet M = sp_X7_meet_B129 M2 := hT.trans (if_neg c11)
          have hV : vc_X7_meet_B129 M2 := iteF hV c11
          exact J129 M2 _ _ _  hT hV hC (lv_sub hl [0] rfl)
        · have hT : sp_X7_meet M = if (sp_X7_met M2 x1) = 0 then (sp_X7_meet_B84 (sp_X7_meet_B2 n) x1 M2) else (if (gI M2 27 x1.toNatClampNeg) = 0 then (sp_X7_meet_B84 (sp_X7_meet_B2 n) x1 M2) else (sp_X7_meet_n9 (sp_X7_meet_B2 n) x1 (sp_X7_points M2 (200 <<< ((gI M2 20 11) &&& 31))))) := hT.trans (if_pos c11)
          have hV : vc_X7_met M2 x1 ∧ (if (sp_X7_met M2 x1) = 0 then vc_X7_meet_B84 (vc_X7_meet_B2 n) x1 M2 else (vp_in x1 5 ∧ (if (gI M2 27 x1.toNatClampNeg) = 0 then vc_X7_meet_B84 (vc_X7_meet_B2 n) x1 M2 else (vc_X7_meet_n9 (vc_X7_meet_B2 n) x1 (sp_X7_points M2 (200 <<< ((gI M2 20 11) &&& 31))))))) := iteT hV c11
          refine lv_aload_n hx hb dX7_meet_14 rfl (lv_at hl 0 rfl) ?_
          refine lv_iload_n hx hb dX7_meet_15 rfl (lv_at hl 1 rfl) ?_
          obtain ⟨v16, hV⟩ : vc_X7_met M2 x1 ∧ (if (sp_X7_met M2 x1) = 0 then vc_X7_meet_B84 (vc_X7_meet_B2 n) x1 M2 else (vp_in x1 5 ∧ (if (gI M2 27 x1.toNatClampNeg) = 0 then vc_X7_meet_B84 (vc_X7_meet_B2 n) x1 M2 else (vc_X7_meet_n9 (vc_X7_meet_B2 n) x1 (sp_X7_points M2 (200 <<< ((gI M2 20 11) &&& 31))))))) := hV
          refine q_Ci (q_V (own := "MazeBoardModel") (y := yX7_met) (As := [.int x1]) (rest := []) ⟨hx, hb, hml, hown, hB⟩ hK hE hC (c_X7_met l D cy ad L H.size (hL.sub (by decide) (by decide)) M2 x1 v16) rfl (hL 20 (by decide) (by decide)) rfl mw_4_8 mw_4_10 mw_0_43 mw_1_7 mw_4_11 rfl yd_X7_met ⟨rfl, rfl⟩ ⟨Nat.le_of_ble_eq_true rfl, Nat.le_of_ble_eq_true rfl⟩ rfl hl.1 rfl (Nat.le_of_ble_eq_true rfl) dX7_meet_16 ⟨Nat.le_refl _, Nat.le_refl _⟩) hC (fun r N_ H locs hp hC => ?_)
          obtain ⟨hr_, hM_⟩ := hp
          subst hr_
          rw [hM_] at hC
          refine lv_if_eq (tgt := 84) hx hb dX7_meet_19 (by decide) (fun c19 => ?_) (fun c19 => ?_)
          · have hT : sp_X7_meet M = sp_X7_meet_B84 (sp_X7_meet_B2 n) x1 M2 := hT.trans (if_pos c19)
            have hV : vc_X7_meet_B84 (vc_X7_meet_B2 n) x1 M2 := iteT hV c19
            exact J84 x1 M2 _ _ _  hT hV hC (lv_sub hl [0, 1] rfl)
          · have hT : sp_X7_meet M = if (gI M2 27 x1.toNatClampNeg) = 0 then (sp_X7_meet_B84 (sp_X7_meet_B2 n) x1 M2) else (sp_X7_meet_n9 (sp_X7_meet_B2 n) x1 (sp_X7_points M2 (200 <<< ((gI M2 20 11) &&& 31)))) := hT.trans (if_neg c19)
            have hV : vp_in x1 5 ∧ (if (gI M2 27 x1.toNatClampNeg) = 0 then vc_X7_meet_B84 (vc_X7_meet_B2 n) x1 M2 else (vc_X7_meet_n9 (vc_X7_meet_B2 n) x1 (sp_X7_points M2 (200 <<< ((gI M2 20 11) &&& 31))))) := iteF hV c19
            refine lv_aload_n hx hb dX7_meet_22 rfl (lv_at hl 0 rfl) ?_
            refine q_getr (T := TX7) hx hb hB uw_X7 hown hK hC rfl (hL 20 (by decide) (by decide)) rfl 20 (by decide) rfl rfl (hB _ mw_3_64) dX7_meet_23 ?_
            refine lv_iload_n hx hb dX7_meet_26 rfl (lv_at hl 1 rfl) ?_
            obtain ⟨w27, hV⟩ : vp_in x1 5 ∧ (if (gI M2 27 x1.toNatClampNeg) = 0 then vc_X7_meet_B84 (vc_X7_meet_B2 n) x1 M2 else (vc_X7_meet_n9 (vc_X7_meet_B2 n) x1 (sp_X7_points M2 (200 <<< ((gI M2 20 11) &&& 31))))) := hV
            refine q_zald hx hb hK hC rfl (hL 27 (by decide) (by decide)) rfl w27 rfl dX7_meet_27 ?_
            refine lv_if_eq (tgt := 84) hx hb dX7_meet_28 (by decide) (fun c28 => ?_) (fun c28 => ?_)
            · have hT : sp_X7_meet M = sp_X7_meet_B84 (sp_X7_meet_B2 n) x1 M2 := hT.trans (if_pos c28)
              have hV : vc_X7_meet_B84 (vc_X7_meet_B2 n) x1 M2 := iteT hV c28
              exact J84 x1 M2 _ _ _  hT hV hC (lv_sub hl [0, 1] rfl)
            · have hT : sp_X7_meet M = sp_X7_meet_n9 (sp_X7_meet_B2 n) x1 (sp_X7_points M2 (200 <<< ((gI M2 20 11) &&& 31))) := hT.trans (if_neg c28)
              have hV : vc_X7_meet_n9 (vc_X7_meet_B2 n) x1 (sp_X7_points M2 (200 <<< ((gI M2 20 11) &&& 31))) := iteF hV c28
              refine lv_aload_n hx hb dX7_meet_31 rfl (lv_at hl 0 rfl) ?_
              refine lv_sipush (v := 200) hx hb dX7_meet_32 (by decide) ?_
              refine lv_aload_n hx hb dX7_meet_35 rfl (lv_at hl 0 rfl) ?_
              refine q_geti (T := TX7) hx hb hB uw_X7 hown hK hC rfl (hL 20 (by decide) (by decide)) rfl 11 (by decide) rfl (hB _ mw_3_55) dX7_meet_36 ?_
              refine lv_ishl hx hb dX7_meet_39 ?_
              refine q_Cv (q_V (own := "MazeBoardModel") (y := yX7_points) (As := [.int (200 <<< ((gI M2 20 11) &&& 31))]) (rest := []) ⟨hx, hb, hml, hown, hB⟩ hK hE hC (c_X7_points l D cy ad L H.size (hL.sub (by decide) (by decide)) M2 (200 <<< ((gI M2 20 11) &&& 31))) rfl (hL 20 (by decide) (by decide)) rfl mw_3_204 mw_3_206 mw_0_35 mw_1_7 mw_3_207 rfl yd_X7_points ⟨rfl, rfl⟩ ⟨Nat.le_of_ble_eq_true rfl, Nat.le_of_ble_eq_true rfl⟩ rfl hl.1 rfl (Nat.le_of_ble_eq_true rfl) dX7_meet_40 ⟨Nat.le_refl _, Nat.le_refl _⟩) hC (fun M3 H locs eM3 hC => ?_)
              have hT : sp_X7_meet M = sp_X7_meet_n9 (sp_X7_meet_B2 n) x1 M3 := by rw [eM3]; exact hT
              have hV : vc_X7_meet_n9 (vc_X7_meet_B2 n) x1 M3 := by rw [eM3]; exact hV
              refine lv_aload_n hx hb dX7_meet_43 rfl (lv_at hl 0 rfl) ?_
              refine lv_aload_n hx hb dX7_meet_44 rfl (lv_at hl 0 rfl) ?_
              refine q_geti (T := TX7) hx hb hB uw_X7 hown hK hC rfl (hL 20 (by decide) (by decide)) rfl 11 (by decide) rfl (hB _ mw_3_55) dX7_meet_45 ?_
              refine lv_iconst (v := 3) hx hb dX7_meet_48 (by decide) ?_
              refine lv_icmp_ge (tgt := 61) hx hb dX7_meet_49 (by decide) (fun c49 => ?_) (fun c49 => ?_)
              · have hT : sp_X7_meet M = sp_X7_meet_B62 (sp_X7_meet_B2 n) x1 M3 3 := hT.trans (if_pos c49)
                have hV : vc_X7_meet_B62 (vc_X7_meet_B2 n) x1 M3 3 := iteT hV c49
                refine lv_iconst (v := 3) hx hb dX7_meet_61 (by decide) ?_
                exact J62 x1 M3 3 _ _ _  hT hV hC (lv_sub hl [0, 1] rfl)
              · have hT : sp_X7_meet M = sp_X7_meet_B62 (sp_X7_meet_B2 n) x1 M3 ((gI M3 20 11) + 1) := hT.trans (if_neg c49)
                have hV : vc_X7_meet_B62 (vc_X7_meet_B2 n) x1 M3 ((gI M3 20 11) + 1) := iteF hV c49
                refine lv_aload_n hx hb dX7_meet_52 rfl (lv_at hl 0 rfl) ?_
                refine q_geti (T := TX7) hx hb hB uw_X7 hown hK hC rfl (hL 20 (by decide) (by decide)) rfl 11 (by decide) rfl (hB _ mw_3_55) dX7_meet_53 ?_
                refine lv_iconst (v := 1) hx hb dX7_meet_56 (by decide) ?_
                refine lv_iadd hx hb dX7_meet_57 ?_
                refine lv_goto (tgt := 62) hx hb dX7_meet_58 (by decide) ?_
                exact J62 x1 M3 ((gI M3 20 11) + 1) _ _ _  hT hV hC (lv_sub hl [0, 1] rfl)
  have hT : sp_X7_meet M = sp_X7_meet_B2 6 1 M := rfl
  have hV : vc_X7_meet_B2 6 1 M := hV
  refine lv_iconst (v := 1) hx hb dX7_meet_0 (by decide) ?_
  refine lv_istore_n (lv' := [(1, .int 1), (0, .ref (ad 20))]) hx hb dX7_meet_1 rfl hl (by decide) rfl (fun ls hl => ?_)
  exact J2 6 1 M _ _ _  hT hV hC (lv_sub hl [1, 0] rfl)
set_option maxHeartbeats 4000000 in
set_option maxRecDepth 100000 in
theorem c_X7_left (l : Launch) (D : va_G) (cy ad : Nat → Nat) (L : List Nat) (sz : Nat) (hL : lr 20 34 L) (M : Mem)  (hV : vc_X7_left M ) : Met l yX7_left (Cond.code yX7_left cX7_left 3 (some .int) :: BG) ({ frames := 0, cells := 0, slots := 0, locals := 0 }) (va_Pc [.ref (ad 20)] (PW D cy ad L M sz)) (va_Qi (fun r N => r = sp_X7_left M ∧ N = M) (OW D cy ad L sz) (fA ad L sz)) 0 0 (fA ad L sz) := by
  refine q_start (by decide) (Nat.le_of_ble_eq_true rfl) (fun p e s m below meth c H locs ls hsz hx hb hr hlocks hml hown hB hK hE hC hl => ?_)
  subst hsz
  have hown : s.vm.findClass "MazeBoardModel" = some m.cls := hown
  have hl : lv_has ls 3 [(0, .ref (ad 20))] := hl
  have J4 : ∀ (n : Nat) (x1 : Int32) (x2 : Int32) (H : Heap) (locs : List Loc) (ls : Array Slot) (hT : sp_X7_left M = sp_X7_left_B4 n M x1 x2) (hV : vc_X7_left_B4 n M x1 x2) (hC : Cx D cy ad R0 L (fA ad L s.heap.size) s M H locs) (hl : lv_has ls 3 [(0, .ref (ad 20)), (1, .int x1), (2, .int x2)]), W p l e ({ frames := 0, cells := 0, slots := 0, locals := 0 }) s m ([.ref (ad 20)] : List Value).toArray below meth c H locs 0 0 (MQ below (va_Qi (fun r N => r = sp_X7_left M ∧ N = M) (OW D cy ad L s.heap.size) (fA ad L s.heap.size)) ([.ref (ad 20)] : List Value).toArray s 0 0 (fA ad L s.heap.size)) (F0 m 4 ls []) := by
    intro n
    induction n with
    | zero => intro x1 x2 H locs ls  hT hV; exact hV.elim
    | succ n ih =>
      have J37 : ∀ (x2 : Int32) (x3 : Int32) (H : Heap) (locs : List Loc) (ls : Array Slot) (hT : sp_X7_left M = sp_X7_left_B37 (sp_X7_left_B4 n) M x2 x3) (hV : vc_X7_left_B37 (vc_X7_left_B4 n) M x2 x3) (hC : Cx D cy ad R0 L (fA ad L s.heap.size) s M H locs) (hl : lv_has ls 3 [(0, .ref (ad 20)), (2, .int x2)]), W p l e ({ frames := 0, cells := 0, slots := 0, locals := 0 }) s m ([.ref (ad 20)] : List Value).toArray below meth c H locs 0 0 (MQ below (va_Qi (fun r N => r = sp_X7_left M ∧ N = M) (OW D cy ad L s.heap.size) (fA ad L s.heap.size)) ([.ref (ad 20)] : List Value).toArray s 0 0 (fA ad L s.heap.size)) (F0 m 37 ls [.int x3]) := by
        intro x2 x3 H locs ls  hT hV hC hl
        have hT : sp_X7_left M = sp_X7_left_n1 (sp_X7_left_B4 n) M x3 (x2 + 1) := hT
        have hV : vc_X7_left_n1 (vc_X7_left_B4 n) M x3 (x2 + 1) := hV
        refine lv_istore_n (lv' := [(1, .int x3), (0, .ref (ad 20)), (2, .int x2)]) hx hb dX7_left_37 rfl hl (by decide) rfl (fun ls hl => ?_)
        obtain ⟨x4, ex4⟩ : ∃ z : Int32, z = x2 + 1 := ⟨_, rfl⟩
        have hT : sp_X7_left M = sp_X7_left_n1 (sp_X7_left_B4 n) M x3 x4 := by rw [ex4]; exact hT
        have hV : vc_X7_left_n1 (vc_X7_left_B4 n) M x3 x4 := by rw [ex4]; exact hV
        refine lv_iinc (v := x4) (lv' := [(2, .int x4), (1, .int x3), (0, .ref (ad 20))]) hx hb dX7_left_38 hl (k := 2) rfl (by rw [ex4]; rfl) (by decide) rfl (fun ls hl => ?_)
        refine lv_goto (tgt := 4) hx hb dX7_left_41 (by decide) ?_
        exact ih x3 x4 _ _ _  hT hV hC (lv_sub hl [2, 1, 0] rfl)
      have J30 : ∀ (x1 : Int32) (x2 : Int32) (H : Heap) (locs : List Loc) (ls : Array Slot) (hT : sp_X7_left M = sp_X7_left_B30 (sp_X7_left_B4 n) M x1 x2) (hV : vc_X7_left_B30 (vc_X7_left_B4 n) M x1 x2) (hC : Cx D cy ad R0 L (fA ad L s.heap.size) s M H locs) (hl : lv_has ls 3 [(0, .ref (ad 20)), (1, .int x1), (2, .int x2)]), W p l e ({ frames := 0, cells := 0, slots := 0, locals := 0 }) s m ([.ref (ad 20)] : List Value).toArray below meth c H locs 0 0 (MQ below (va_Qi (fun r N => r = sp_X7_left M ∧ N = M) (OW D cy ad L s.heap.size) (fA ad L s.heap.size)) ([.ref (ad 20)] : List Value).toArray s 0 0 (fA ad L s.heap.size)) (F0 m 30 ls []) := by
        intro x1 x2 H locs ls  hT hV hC hl
        have hT : sp_X7_left M = sp_X7_left_B37 (sp_X7_left_B4 n) M x2 (x1 + 1) := hT
        have hV : vc_X7_left_B37 (vc_X7_left_B4 n) M x2 (x1 + 1) := hV
        refine lv_iload_n hx hb dX7_left_30 rfl (lv_at hl 1 rfl) ?_
        refine lv_iconst (v := 1) hx hb dX7_left_31 (by decide) ?_
        refine lv_iadd hx hb dX7_left_32 ?_
        refine lv_goto (tgt := 37) hx hb dX7_left_33 (by decide) ?_
        exact J37 x2 (x1 + 1) _ _ _  hT hV hC (lv_sub hl [0, 2] rfl)
      intro x1 x2 H locs ls  hT hV hC hl
      have hT : sp_X7_left M = if 117 ≤ x2 then x1 else (if (gI M 22 x2.toNatClampNeg) = 2 then (sp_X7_left_B30 (sp_X7_left_B4 n) M x1 x2) else (if (gI M 22 x2.toNatClampNeg) = 3 then (sp_X7_left_B30 (sp_X7_left_B4 n) M x1 x2) else (sp_X7_left_B37 (sp_X7_left_B4 n) M x2 x1))) := hT
      have hV : if 117 ≤ x2 then True else (vp_in x2 117 ∧ (if (gI M 22 x2.toNatClampNeg) = 2 then vc_X7_left_B30 (vc_X7_left_B4 n) M x1 x2 else (vp_in x2 117 ∧ (if (gI M 22 x2.toNatClampNeg) = 3 then vc_X7_left_B30 (vc_X7_left_B4 n) M x1 x2 else vc_X7_left_B37 (vc_X7_left_B4 n) M x2 x1)))) := hV
      refine lv_iload_n hx hb dX7_left_4 rfl (lv_at hl 2 rfl) ?_
      refine lv_bipush (v := 117) hx hb dX7_left_5 (by decide) ?_
      refine lv_icmp_ge (tgt := 44) hx hb dX7_left_7 (by decide) (fun c7 => ?_) (fun c7 => ?_)
      · have hT : sp_X7_left M = x1 := hT.trans (if_pos c7)
        refine lv_iload_n hx hb dX7_left_44 rfl (lv_at hl 1 rfl) ?_
        exact q_reti hx hb hr hlocks hC ⟨hT.symm, rfl⟩ dX7_left_45
      · have hT : sp_X7_left M = if (gI M 22 x2.toNatClampNeg) = 2 then (sp_X7_left_B30 (sp_X7_left_B4 n) M x1 x2) else (if (gI M 22 x2.toNatClampNeg) = 3 then (sp_X7_left_B30 (sp_X7_left_B4 n) M x1 x2) else (sp_X7_left_B37 (sp_X7_left_B4 n) M x2 x1)) := hT.trans (if_neg c7)
        have hV : vp_in x2 117 ∧ (if (gI M 22 x2.toNatClampNeg) = 2 then vc_X7_left_B30 (vc_X7_left_B4 n) M x1 x2 else (vp_in x2 117 ∧ (if (gI M 22 x2.toNatClampNeg) = 3 then vc_X7_left_B30 (vc_X7_left_B4 n) M x1 x2 else vc_X7_left_B37 (vc_X7_left_B4 n) M x2 x1))) := iteF hV c7
        refine lv_aload_n hx hb dX7_left_10 rfl (lv_at hl 0 rfl) ?_
        refine q_getr (T := TX7) hx hb hB uw_X7 hown hK hC rfl (hL 20 (by decide) (by decide)) rfl 1 (by decide) rfl rfl (hB _ mw_3_45) dX7_left_11 ?_
        refine lv_iload_n hx hb dX7_left_14 rfl (lv_at hl 2 rfl) ?_
        obtain ⟨w15, hV⟩ : vp_in x2 117 ∧ (if (gI M 22 x2.toNatClampNeg) = 2 then vc_X7_left_B30 (vc_X7_left_B4 n) M x1 x2 else (vp_in x2 117 ∧ (if (gI M 22 x2.toNatClampNeg) = 3 then vc_X7_left_B30 (vc_X7_left_B4 n) M x1 x2 else vc_X7_left_B37 (vc_X7_left_B4 n) M x2 x1))) := hV
        refine q_iald hx hb hK hC rfl (hL 22 (by decide) (by decide)) rfl w15 rfl dX7_left_15 ?_
        refine lv_iconst (v := 2) hx hb dX7_left_16 (by decide) ?_
        refine lv_icmp_eq (tgt := 30) hx hb dX7_left_17 (by decide) (fun c17 => ?_) (fun c17 => ?_)
        · have hT : sp_X7_left M = sp_X7_left_B30 (sp_X7_left_B4 n) M x1 x2 := hT.trans (if_pos c17)
          have hV : vc_X7_left_B30 (vc_X7_left_B4 n) M x1 x2 := iteT hV c17
          exact J30 x1 x2 _ _ _  hT hV hC (lv_sub hl [0, 1, 2] rfl)
        · have hT : sp_X7_left M = if (gI M 22 x2.toNatClampNeg) = 3 then (sp_X7_left_B30 (sp_X7_left_B4 n) M x1 x2) else (sp_X7_left_B37 (sp_X7_left_B4 n) M x2 x1) := hT.trans (if_neg c17)
          have hV : vp_in x2 117 ∧ (if (gI M 22 x2.toNatClampNeg) = 3 then vc_X7_left_B30 (vc_X7_left_B4 n) M x1 x2 else vc_X7_left_B37 (vc_X7_left_B4 n) M x2 x1) := iteF hV c17
          refine lv_aload_n hx hb dX7_left_20 rfl (lv_at hl 0 rfl) ?_
          refine q_getr (T := TX7) hx hb hB uw_X7 hown hK hC rfl (hL 20 (by decide) (by decide)) rfl 1 (by decide) rfl rfl (hB _ mw_3_45) dX7_left_21 ?_
          refine lv_iload_n hx hb dX7_left_24 rfl (lv_at hl 2 rfl) ?_
          obtain ⟨w25, hV⟩ : vp_in x2 117 ∧ (if (gI M 22 x2.toNatClampNeg) = 3 then vc_X7_left_B30 (vc_X7_left_B4 n) M x1 x2 else vc_X7_left_B37 (vc_X7_left_B4 n) M x2 x1) := hV
          refine q_iald hx hb hK hC rfl (hL 22 (by decide) (by decide)) rfl w25 rfl dX7_left_25 ?_
          refine lv_iconst (v := 3) hx hb dX7_left_26 (by decide) ?_
          refine lv_icmp_ne (tgt := 36) hx hb dX7_left_27 (by decide) (fun c27 => ?_) (fun c27 => ?_)
          · have hT : sp_X7_left M = sp_X7_left_B37 (sp_X7_left_B4 n) M x2 x1 := hT.trans (if_neg c27)
            have hV : vc_X7_left_B37 (vc_X7_left_B4 n) M x2 x1 := iteF hV c27
            refine lv_iload_n hx hb dX7_left_36 rfl (lv_at hl 1 rfl) ?_
            exact J37 x2 x1 _ _ _  hT hV hC (lv_sub hl [0, 2] rfl)
          · have hT : sp_X7_left M = sp_X7_left_B30 (sp_X7_left_B4 n) M x1 x2 := hT.trans (if_pos c27)
            have hV : vc_X7_left_B30 (vc_X7_left_B4 n) M x1 x2 := iteT hV c27
            exact J30 x1 x2 _ _ _  hT hV hC (lv_sub hl [0, 1, 2] rfl)
  have hT : sp_X7_left M = sp_X7_left_B4 118 M 0 0 := rfl
  have hV : vc_X7_left_B4 118 M 0 0 := hV
  refine lv_iconst (v := 0) hx hb dX7_left_0 (by decide) ?_
  refine lv_istore_n (lv' := [(1, .int 0), (0, .ref (ad 20))]) hx hb dX7_left_1 rfl hl (by decide) rfl (fun ls hl => ?_)
  refine lv_iconst (v := 0) hx hb dX7_left_2 (by decide) ?_
  refine lv_istore_n (lv' := [(2, .int 0), (1, .int 0), (0, .ref (ad 20))]) hx hb dX7_left_3 rfl hl (by decide) rfl (fun ls hl => ?_)
  exact J4 118 0 0 _ _ _  hT hV hC (lv_sub hl [2, 1, 0] rfl)
set_option maxHeartbeats 4000000 in
set_option maxRecDepth 100000 in
theorem c_X7_play (l : Launch) (D : va_G) (cy ad : Nat → Nat) (L : List Nat) (sz : Nat) (hL : lr 20 34 L) (M : Mem)  (hV : vc_X7_play M ) : Met l yX7_play (Cond.code yX7_play cX7_play 2 (none) :: BG) ({ frames := 5, cells := 0, slots := 0, locals := 120 }) (va_Pc [.ref (ad 20)] (PW D cy ad L M sz)) (va_Qv (fun N => N = sp_X7_play M) (OW D cy ad L sz) (fA ad L sz)) 0 0 (fA ad L sz) := by
  refine q_start (by decide) (Nat.le_of_ble_eq_true rfl) (fun p e s m below meth c H locs ls hsz hx hb hr hlocks hml hown hB hK hE hC hl => ?_)
  subst hsz
  have hown : s.vm.findClass "MazeBoardModel" = some m.cls := hown
  have hl : lv_has ls 2 [(0, .ref (ad 20))] := hl
  have J136 : ∀ (M19 : Mem) (H : Heap) (locs : List Loc) (ls : Array Slot) (hT : sp_X7_play M = sp_X7_play_B136 M19) (hC : Cx D cy ad R0 L (fA ad L s.heap.size) s M19 H locs) (hl : lv_has ls 2 []), W p l e ({ frames := 5, cells := 0, slots := 0, locals := 120 }) s m ([.ref (ad 20)] : List Value).toArray below meth c H locs 0 0 (MQ below (va_Qv (fun N => N = sp_X7_play M) (OW D cy ad L s.heap.size) (fA ad L s.heap.size)) ([.ref (ad 20)] : List Value).toArray s 0 0 (fA ad L s.heap.size)) (F0 m 136 ls []) := by
    intro M19 H locs ls  hT hC hl
    have hT : sp_X7_play M = M19 := hT
    exact q_retv hx hb hr hlocks hC hT.symm dX7_play_136
  have J84 : ∀ (n : Nat) (x11 : Int32) (M12 : Mem) (H : Heap) (locs : List Loc) (ls : Array Slot) (hT : sp_X7_play M = sp_X7_play_B84 n x11 M12) (hV : vc_X7_play_B84 n x11 M12) (hC : Cx D cy ad R0 L (fA ad L s.heap.size) s M12 H locs) (hl : lv_has ls 2 [(0, .ref (ad 20)), (1, .int x11)]), W p l e ({ frames := 5, cells := 0, slots := 0, locals := 120 }) s m ([.ref (ad 20)] : List Value).toArray below meth c H locs 0 0 (MQ below (va_Qv (fun N => N = sp_X7_play M) (OW D cy ad L s.heap.size) (fA ad L s.heap.size)) ([.ref (ad 20)] : List Value).toArray s 0 0 (fA ad L s.heap.size)) (F0 m 84 ls []) := by
    intro n
    induction n with
    | zero => intro x11 M12 H locs ls  hT hV; exact hV.elim
    | succ n ih =>
      intro x11 M12 H locs ls  hT hV hC hl
      have hT : sp_X7_play M = if 5 ≤ x11 then (sp_X7_play_n4 (sp_X7_meet M12)) else (sp_X7_play_n6 (sp_X7_play_B84 n) x11 (sp_X7_hunter M12 x11)) := hT
      have hV : if 5 ≤ x11 then (vc_X7_meet M12 ∧ (vc_X7_play_n4 (sp_X7_meet M12))) else (vc_X7_hunter M12 x11 ∧ (vc_X7_play_n6 (vc_X7_play_B84 n) x11 (sp_X7_hunter M12 x11))) := hV
      refine lv_iload_n hx hb dX7_play_84 rfl (lv_at hl 1 rfl) ?_
      refine lv_iconst (v := 5) hx hb dX7_play_85 (by decide) ?_
      refine lv_icmp_ge (tgt := 100) hx hb dX7_play_86 (by decide) (fun c86 => ?_) (fun c86 => ?_)
      · have hT : sp_X7_play M = sp_X7_play_n4 (sp_X7_meet M12) := hT.trans (if_pos c86)
        have hV : vc_X7_meet M12 ∧ (vc_X7_play_n4 (sp_X7_meet M12)) := iteT hV c86
        refine lv_aload_n hx hb dX7_play_100 rfl (lv_at hl 0 rfl) ?_
        obtain ⟨v101, hV⟩ : vc_X7_meet M12 ∧ (vc_X7_play_n4 (sp_X7_meet M12)) := hV
        refine q_Cv (q_V (own := "MazeBoardModel") (y := yX7_meet) (As := []) (rest := []) ⟨hx, hb, hml, hown, hB⟩ hK hE hC (c_X7_meet l D cy ad L H.size (hL.sub (by decide) (by decide)) M12  v101) rfl (hL 20 (by decide) (by decide)) rfl mw_4_4 mw_4_6 mw_0_42 mw_1_7 mw_4_7 rfl yd_X7_meet ⟨rfl, rfl⟩ ⟨Nat.le_of_ble_eq_true rfl, Nat.le_of_ble_eq_true rfl⟩ rfl hl.1 rfl (Nat.le_of_ble_eq_true rfl) dX7_play_101 ⟨Nat.le_refl _, Nat.le_refl _⟩) hC (fun M13 H locs eM13 hC => ?_)
        have hT : sp_X7_play M = sp_X7_play_n4 M13 := by rw [eM13]; exact hT
        have hV : vc_X7_play_n4 M13 := by rw [eM13]; exact hV
        refine lv_aload_n hx hb dX7_play_104 rfl (lv_at hl 0 rfl) ?_
        refine q_geti (T := TX7) hx hb hB uw_X7 hown hK hC rfl (hL 20 (by decide) (by decide)) rfl 30 (by decide) rfl (hB _ mw_3_74) dX7_play_105 ?_
        refine lv_if_ne (tgt := 136) hx hb dX7_play_108 (by decide) (fun c108 => ?_) (fun c108 => ?_)
        · have hT : sp_X7_play M = sp_X7_play_B136 M13 := hT.trans (if_neg c108)
          exact J136 M13 _ _ _  hT hC (lv_sub hl [] rfl)
        · have hT : sp_X7_play M = if (sp_X7_left M13) = 0 then (sp_X7_play_n3 (wI M13 20 8 ((gI M13 20 8) + 1))) else (sp_X7_play_B136 M13) := hT.trans (if_pos c108)
          have hV : vc_X7_left M13 ∧ (if (sp_X7_left M13) = 0 then (vc_X7_play_n3 (wI M13 20 8 ((gI M13 20 8) + 1))) else True) := iteT hV c108
          refine lv_aload_n hx hb dX7_play_111 rfl (lv_at hl 0 rfl) ?_
          obtain ⟨v112, hV⟩ : vc_X7_left M13 ∧ (if (sp_X7_left M13) = 0 then (vc_X7_play_n3 (wI M13 20 8 ((gI M13 20 8) + 1))) else True) := hV
          refine q_Ci (q_V (own := "MazeBoardModel") (y := yX7_left) (As := []) (rest := []) ⟨hx, hb, hml, hown, hB⟩ hK hE hC (c_X7_left l D cy ad L H.size (hL.sub (by decide) (by decide)) M13  v112) rfl (hL 20 (by decide) (by decide)) rfl mw_4_12 mw_4_14 mw_0_44 mw_1_7 mw_4_15 rfl yd_X7_left ⟨rfl, rfl⟩ ⟨Nat.le_of_ble_eq_true rfl, Nat.le_of_ble_eq_true rfl⟩ rfl hl.1 rfl (Nat.le_of_ble_eq_true rfl) dX7_play_112 ⟨Nat.le_refl _, Nat.le_refl _⟩) hC (fun r N_ H locs hp hC => ?_)
          obtain ⟨hr_, hM_⟩ := hp
          subst hr_
          rw [hM_] at hC
          refine lv_if_ne (tgt := 136) hx hb dX7_play_115 (by decide) (fun c115 => ?_) (fun c115 => ?_)
          · have hT : sp_X7_play M = sp_X7_play_B136 M13 := hT.trans (if_neg c115)
            exact J136 M13 _ _ _  hT hC (lv_sub hl [] rfl)
          · have hT : sp_X7_play M = sp_X7_play_n3 (wI M13 20 8 ((gI M13 20 8) + 1)) := hT.trans (if_pos c115)
            have hV : vc_X7_play_n3 (wI M13 20 8 ((gI M13 20 8) + 1)) := iteT hV c115
            refine lv_aload_n hx hb dX7_play_118 rfl (lv_at hl 0 rfl) ?_
            refine lv_dup hx hb dX7_play_119 rfl ?_
            refine q_geti (T := TX7) hx hb hB uw_X7 hown hK hC rfl (hL 20 (by decide) (by decide)) rfl 8 (by decide) rfl (hB _ mw_3_52) dX7_play_120 ?_
            refine lv_iconst (v := 1) hx hb dX7_play_123 (by decide) ?_
            refine lv_iadd hx hb dX7_play_124 ?_
            refine q_puti (T := TX7) hx hb hB uw_X7 tyX7 tyX7_ok nmX7 hown hK hC rfl (hL 20 (by decide) (by decide)) rfl 8 (by decide) rfl (hB _ mw_3_52) rfl rfl rfl rfl dX7_play_125 (fun H locs hC => ?_)
            obtain ⟨M14, eM14⟩ : ∃ z : Mem, z = wI M13 20 8 ((gI M13 20 8) + 1) := ⟨_, rfl⟩
            rw [← eM14] at hC
            have hT : sp_X7_play M = sp_X7_play_n3 M14 := by rw [eM14]; exact hT
            have hV : vc_X7_play_n3 M14 := by rw [eM14]; exact hV
            refine lv_aload_n hx hb dX7_play_128 rfl (lv_at hl 0 rfl) ?_
            obtain ⟨v129, hV⟩ : vc_X7_fill M14 ∧ (vc_X7_play_n2 (sp_X7_fill M14)) := hV
            refine q_Cv (q_V (own := "MazeBoardModel") (y := yX7_fill) (As := []) (rest := []) ⟨hx, hb, hml, hown, hB⟩ hK hE hC (c_X7_fill l D cy ad L H.size (hL.sub (by decide) (by decide)) M14  v129) rfl (hL 20 (by decide) (by decide)) rfl mw_3_32 mw_3_34 mw_0_24 mw_1_7 mw_3_35 rfl yd_X7_fill ⟨rfl, rfl⟩ ⟨Nat.le_of_ble_eq_true rfl, Nat.le_of_ble_eq_true rfl⟩ rfl hl.1 rfl (Nat.le_of_ble_eq_true rfl) dX7_play_129 ⟨Nat.le_refl _, Nat.le_refl _⟩) hC (fun M15 H locs eM15 hC => ?_)
            have hT : sp_X7_play M = sp_X7_play_n2 M15 := by rw [eM15]; exact hT
            have hV : vc_X7_play_n2 M15 := by rw [eM15]; exact hV
            refine lv_aload_n hx hb dX7_play_132 rfl (lv_at hl 0 rfl) ?_
            have v133 : vc_X7_place M15 := hV
            refine q_Cv (q_V (own := "MazeBoardModel") (y := yX7_place) (As := []) (rest := []) ⟨hx, hb, hml, hown, hB⟩ hK hE hC (c_X7_place l D cy ad L H.size (hL.sub (by decide) (by decide)) M15  v133) rfl (hL 20 (by decide) (by decide)) rfl mw_3_36 mw_3_38 mw_0_25 mw_1_7 mw_3_39 rfl yd_X7_place ⟨rfl, rfl⟩ ⟨Nat.le_of_ble_eq_true rfl, Nat.le_of_ble_eq_true rfl⟩ rfl hl.1 rfl (Nat.le_of_ble_eq_true rfl) dX7_play_133 ⟨Nat.le_refl _, Nat.le_refl _⟩) hC (fun M16 H locs eM16 hC => ?_)
            have hT : sp_X7_play M = sp_X7_play_n1 M16 := by rw [eM16]; exact hT
            exact J136 M16 _ _ _  hT hC (lv_sub hl [] rfl)
      · have hT : sp_X7_play M = sp_X7_play_n6 (sp_X7_play_B84 n) x11 (sp_X7_hunter M12 x11) := hT.trans (if_neg c86)
        have hV : vc_X7_hunter M12 x11 ∧ (vc_X7_play_n6 (vc_X7_play_B84 n) x11 (sp_X7_hunter M12 x11)) := iteF hV c86
        refine lv_aload_n hx hb dX7_play_89 rfl (lv_at hl 0 rfl) ?_
        refine lv_iload_n hx hb dX7_play_90 rfl (lv_at hl 1 rfl) ?_
        obtain ⟨v91, hV⟩ : vc_X7_hunter M12 x11 ∧ (vc_X7_play_n6 (vc_X7_play_B84 n) x11 (sp_X7_hunter M12 x11)) := hV
        refine q_Cv (q_V (own := "MazeBoardModel") (y := yX7_hunter) (As := [.int x11]) (rest := []) ⟨hx, hb, hml, hown, hB⟩ hK hE hC (c_X7_hunter l D cy ad L H.size (hL.sub (by decide) (by decide)) M12 x11 v91) rfl (hL 20 (by decide) (by decide)) rfl mw_3_212 mw_3_214 mw_0_37 mw_1_7 mw_3_215 rfl yd_X7_hunter ⟨rfl, rfl⟩ ⟨Nat.le_of_ble_eq_true rfl, Nat.le_of_ble_eq_true rfl⟩ rfl hl.1 rfl (Nat.le_of_ble_eq_true rfl) dX7_play_91 ⟨Nat.le_refl _, Nat.le_refl _⟩) hC (fun M17 H locs eM17 hC => ?_)
        have hT : sp_X7_play M = sp_X7_play_n6 (sp_X7_play_B84 n) x11 M17 := by rw [eM17]; exact hT
        have hV : vc_X7_play_n6 (vc_X7_play_B84 n) x11 M17 := by rw [eM17]; exact hV
        obtain ⟨x18, ex18⟩ : ∃ z : Int32, z = x11 + 1 := ⟨_, rfl⟩
        have hT : sp_X7_play M = sp_X7_play_n5 (sp_X7_play_B84 n) M17 x18 := by rw [ex18]; exact hT
        have hV : vc_X7_play_n5 (vc_X7_play_B84 n) M17 x18 := by rw [ex18]; exact hV
        refine lv_iinc (v := x18) (lv' := [(1, .int x18), (0, .ref (ad 20))]) hx hb dX7_play_94 hl (k := 1) rfl (by rw [ex18]; rfl) (by decide) rfl (fun ls hl => ?_)
        refine lv_goto (tgt := 84) hx hb dX7_play_97 (by decide) ?_
        exact ih x18 M17 _ _ _  hT hV hC (lv_sub hl [1, 0] rfl)
  have J43 : ∀ (n : Nat) (x5 : Int32) (M6 : Mem) (H : Heap) (locs : List Loc) (ls : Array Slot) (hT : sp_X7_play M = sp_X7_play_B43 n x5 M6) (hV : vc_X7_play_B43 n x5 M6) (hC : Cx D cy ad R0 L (fA ad L s.heap.size) s M6 H locs) (hl : lv_has ls 2 [(0, .ref (ad 20)), (1, .int x5)]), W p l e ({ frames := 5, cells := 0, slots := 0, locals := 120 }) s m ([.ref (ad 20)] : List Value).toArray below meth c H locs 0 0 (MQ below (va_Qv (fun N => N = sp_X7_play M) (OW D cy ad L s.heap.size) (fA ad L s.heap.size)) ([.ref (ad 20)] : List Value).toArray s 0 0 (fA ad L s.heap.size)) (F0 m 43 ls []) := by
    intro n
    induction n with
    | zero => intro x5 M6 H locs ls  hT hV; exact hV.elim
    | succ n ih =>
      intro x5 M6 H locs ls  hT hV hC hl
      have hT : sp_X7_play M = if 5 ≤ x5 then (sp_X7_play_n7 (sp_X7_player M6)) else (sp_X7_play_n10 (sp_X7_play_B43 n) x5 (wI M6 30 x5.toNatClampNeg (gI M6 23 x5.toNatClampNeg))) := hT
      have hV : if 5 ≤ x5 then (vc_X7_player M6 ∧ (vc_X7_play_n7 (sp_X7_player M6))) else (vp_in x5 5 ∧ (vp_in x5 5 ∧ (vc_X7_play_n10 (vc_X7_play_B43 n) x5 (wI M6 30 x5.toNatClampNeg (gI M6 23 x5.toNatClampNeg))))) := hV
      refine lv_iload_n hx hb dX7_play_43 rfl (lv_at hl 1 rfl) ?_
      refine lv_iconst (v := 5) hx hb dX7_play_44 (by decide) ?_
      refine lv_icmp_ge (tgt := 78) hx hb dX7_play_45 (by decide) (fun c45 => ?_) (fun c45 => ?_)
      · have hT : sp_X7_play M = sp_X7_play_n7 (sp_X7_player M6) := hT.trans (if_pos c45)
        have hV : vc_X7_player M6 ∧ (vc_X7_play_n7 (sp_X7_player M6)) := iteT hV c45
        refine lv_aload_n hx hb dX7_play_78 rfl (lv_at hl 0 rfl) ?_
        obtain ⟨v79, hV⟩ : vc_X7_player M6 ∧ (vc_X7_play_n7 (sp_X7_player M6)) := hV
        refine q_Cv (q_V (own := "MazeBoardModel") (y := yX7_player) (As := []) (rest := []) ⟨hx, hb, hml, hown, hB⟩ hK hE hC (c_X7_player l D cy ad L H.size (hL.sub (by decide) (by decide)) M6  v79) rfl (hL 20 (by decide) (by decide)) rfl mw_3_173 mw_3_175 mw_0_30 mw_1_7 mw_3_176 rfl yd_X7_player ⟨rfl, rfl⟩ ⟨Nat.le_of_ble_eq_true rfl, Nat.le_of_ble_eq_true rfl⟩ rfl hl.1 rfl (Nat.le_of_ble_eq_true rfl) dX7_play_79 ⟨Nat.le_refl _, Nat.le_refl _⟩) hC (fun M7 H locs eM7 hC => ?_)
        have hT : sp_X7_play M = sp_X7_play_n7 M7 := by rw [eM7]; exact hT
        have hV : vc_X7_play_n7 M7 := by rw [eM7]; exact hV
        refine lv_iconst (v := 1) hx hb dX7_play_82 (by decide) ?_
        refine lv_istore_n (lv' := [(1, .int 1), (0, .ref (ad 20))]) hx hb dX7_play_83 rfl hl (by decide) rfl (fun ls hl => ?_)
        exact J84 6 1 M7 _ _ _  hT hV hC (lv_sub hl [1, 0] rfl)
      · have hT : sp_X7_play M = sp_X7_play_n10 (sp_X7_play_B43 n) x5 (wI M6 30 x5.toNatClampNeg (gI M6 23 x5.toNatClampNeg)) := hT.trans (if_neg c45)
        have hV : vp_in x5 5 ∧ (vp_in x5 5 ∧ (vc_X7_play_n10 (vc_X7_play_B43 n) x5 (wI M6 30 x5.toNatClampNeg (gI M6 23 x5.toNatClampNeg)))) := iteF hV c45
        refine lv_aload_n hx hb dX7_play_48 rfl (lv_at hl 0 rfl) ?_
        refine q_getr (T := TX7) hx hb hB uw_X7 hown hK hC rfl (hL 20 (by decide) (by decide)) rfl 23 (by decide) rfl rfl (hB _ mw_3_67) dX7_play_49 ?_
        refine lv_iload_n hx hb dX7_play_52 rfl (lv_at hl 1 rfl) ?_
        refine lv_aload_n hx hb dX7_play_53 rfl (lv_at hl 0 rfl) ?_
        refine q_getr (T := TX7) hx hb hB uw_X7 hown hK hC rfl (hL 20 (by decide) (by decide)) rfl 16 (by decide) rfl rfl (hB _ mw_3_60) dX7_play_54 ?_
        refine lv_iload_n hx hb dX7_play_57 rfl (lv_at hl 1 rfl) ?_
        obtain ⟨w58, hV⟩ : vp_in x5 5 ∧ (vp_in x5 5 ∧ (vc_X7_play_n10 (vc_X7_play_B43 n) x5 (wI M6 30 x5.toNatClampNeg (gI M6 23 x5.toNatClampNeg)))) := hV
        refine q_iald hx hb hK hC rfl (hL 23 (by decide) (by decide)) rfl w58 rfl dX7_play_58 ?_
        obtain ⟨w59, hV⟩ : vp_in x5 5 ∧ (vc_X7_play_n10 (vc_X7_play_B43 n) x5 (wI M6 30 x5.toNatClampNeg (gI M6 23 x5.toNatClampNeg))) := hV
        refine q_iast hx hb hK hC rfl (hL 30 (by decide) (by decide)) rfl w59 rfl dX7_play_59 (fun H locs hC => ?_)
        obtain ⟨M8, eM8⟩ : ∃ z : Mem, z = wI M6 30 x5.toNatClampNeg (gI M6 23 x5.toNatClampNeg) := ⟨_, rfl⟩
        rw [← eM8] at hC
        have hT : sp_X7_play M = sp_X7_play_n10 (sp_X7_play_B43 n) x5 M8 := by rw [eM8]; exact hT
        have hV : vc_X7_play_n10 (vc_X7_play_B43 n) x5 M8 := by rw [eM8]; exact hV
        refine lv_aload_n hx hb dX7_play_60 rfl (lv_at hl 0 rfl) ?_
        refine q_getr (T := TX7) hx hb hB uw_X7 hown hK hC rfl (hL 20 (by decide) (by decide)) rfl 24 (by decide) rfl rfl (hB _ mw_3_68) dX7_play_61 ?_
        refine lv_iload_n hx hb dX7_play_64 rfl (lv_at hl 1 rfl) ?_
        refine lv_aload_n hx hb dX7_play_65 rfl (lv_at hl 0 rfl) ?_
        refine q_getr (T := TX7) hx hb hB uw_X7 hown hK hC rfl (hL 20 (by decide) (by decide)) rfl 17 (by decide) rfl rfl (hB _ mw_3_61) dX7_play_66 ?_
        refine lv_iload_n hx hb dX7_play_69 rfl (lv_at hl 1 rfl) ?_
        obtain ⟨w70, hV⟩ : vp_in x5 5 ∧ (vp_in x5 5 ∧ (vc_X7_play_n9 (vc_X7_play_B43 n) x5 (wI M8 31 x5.toNatClampNeg (gI M8 24 x5.toNatClampNeg)))) := hV
        refine q_iald hx hb hK hC rfl (hL 24 (by decide) (by decide)) rfl w70 rfl dX7_play_70 ?_
        obtain ⟨w71, hV⟩ : vp_in x5 5 ∧ (vc_X7_play_n9 (vc_X7_play_B43 n) x5 (wI M8 31 x5.toNatClampNeg (gI M8 24 x5.toNatClampNeg))) := hV
        refine q_iast hx hb hK hC rfl (hL 31 (by decide) (by decide)) rfl w71 rfl dX7_play_71 (fun H locs hC => ?_)
        obtain ⟨M9, eM9⟩ : ∃ z : Mem, z = wI M8 31 x5.toNatClampNeg (gI M8 24 x5.toNatClampNeg) := ⟨_, rfl⟩
        rw [← eM9] at hC
        have hT : sp_X7_play M = sp_X7_play_n9 (sp_X7_play_B43 n) x5 M9 := by rw [eM9]; exact hT
        have hV : vc_X7_play_n9 (vc_X7_play_B43 n) x5 M9 := by rw [eM9]; exact hV
        obtain ⟨x10, ex10⟩ : ∃ z : Int32, z = x5 + 1 := ⟨_, rfl⟩
        have hT : sp_X7_play M = sp_X7_play_n8 (sp_X7_play_B43 n) M9 x10 := by rw [ex10]; exact hT
        have hV : vc_X7_play_n8 (vc_X7_play_B43 n) M9 x10 := by rw [ex10]; exact hV
        refine lv_iinc (v := x10) (lv' := [(1, .int x10), (0, .ref (ad 20))]) hx hb dX7_play_72 hl (k := 1) rfl (by rw [ex10]; rfl) (by decide) rfl (fun ls hl => ?_)
        refine lv_goto (tgt := 43) hx hb dX7_play_75 (by decide) ?_
        exact ih x10 M9 _ _ _  hT hV hC (lv_sub hl [1, 0] rfl)
  have J41 : ∀ (M4 : Mem) (H : Heap) (locs : List Loc) (ls : Array Slot) (hT : sp_X7_play M = sp_X7_play_B41 M4) (hV : vc_X7_play_B41 M4) (hC : Cx D cy ad R0 L (fA ad L s.heap.size) s M4 H locs) (hl : lv_has ls 2 [(0, .ref (ad 20))]), W p l e ({ frames := 5, cells := 0, slots := 0, locals := 120 }) s m ([.ref (ad 20)] : List Value).toArray below meth c H locs 0 0 (MQ below (va_Qv (fun N => N = sp_X7_play M) (OW D cy ad L s.heap.size) (fA ad L s.heap.size)) ([.ref (ad 20)] : List Value).toArray s 0 0 (fA ad L s.heap.size)) (F0 m 41 ls []) := by
    intro M4 H locs ls  hT hV hC hl
    have hT : sp_X7_play M = sp_X7_play_B43 6 0 M4 := hT
    have hV : vc_X7_play_B43 6 0 M4 := hV
    refine lv_iconst (v := 0) hx hb dX7_play_41 (by decide) ?_
    refine lv_istore_n (lv' := [(1, .int 0), (0, .ref (ad 20))]) hx hb dX7_play_42 rfl hl (by decide) rfl (fun ls hl => ?_)
    exact J43 6 0 M4 _ _ _  hT hV hC (lv_sub hl [1, 0] rfl)
  have hT : sp_X7_play M = if (gI M 20 9) ≤ 0 then (sp_X7_play_n11 (wI M 20 10 ((gI M 20 10) + 1))) else (sp_X7_play_n13 (wI M 20 9 ((gI M 20 9) - 1))) := rfl
  have hV : if (gI M 20 9) ≤ 0 then (vc_X7_play_n11 (wI M 20 10 ((gI M 20 10) + 1))) else (vc_X7_play_n13 (wI M 20 9 ((gI M 20 9) - 1))) := hV
  refine lv_aload_n hx hb dX7_play_0 rfl (lv_at hl 0 rfl) ?_
  refine q_geti (T := TX7) hx hb hB uw_X7 hown hK hC rfl (hL 20 (by decide) (by decide)) rfl 9 (by decide) rfl (hB _ mw_3_53) dX7_play_1 ?_
  refine lv_if_le (tgt := 31) hx hb dX7_play_4 (by decide) (fun c4 => ?_) (fun c4 => ?_)
  · have hT : sp_X7_play M = sp_X7_play_n11 (wI M 20 10 ((gI M 20 10) + 1)) := hT.trans (if_pos c4)
    have hV : vc_X7_play_n11 (wI M 20 10 ((gI M 20 10) + 1)) := iteT hV c4
    refine lv_aload_n hx hb dX7_play_31 rfl (lv_at hl 0 rfl) ?_
    refine lv_dup hx hb dX7_play_32 rfl ?_
    refine q_geti (T := TX7) hx hb hB uw_X7 hown hK hC rfl (hL 20 (by decide) (by decide)) rfl 10 (by decide) rfl (hB _ mw_3_54) dX7_play_33 ?_
    refine lv_iconst (v := 1) hx hb dX7_play_36 (by decide) ?_
    refine lv_iadd hx hb dX7_play_37 ?_
    refine q_puti (T := TX7) hx hb hB uw_X7 tyX7 tyX7_ok nmX7 hown hK hC rfl (hL 20 (by decide) (by decide)) rfl 10 (by decide) rfl (hB _ mw_3_54) rfl rfl rfl rfl dX7_play_38 (fun H locs hC => ?_)
    obtain ⟨M1, eM1⟩ : ∃ z : Mem, z = wI M 20 10 ((gI M 20 10) + 1) := ⟨_, rfl⟩
    rw [← eM1] at hC
    have hT : sp_X7_play M = sp_X7_play_n11 M1 := by rw [eM1]; exact hT
    have hV : vc_X7_play_n11 M1 := by rw [eM1]; exact hV
    exact J41 M1 _ _ _  hT hV hC (lv_sub hl [0] rfl)
  · have hT : sp_X7_play M = sp_X7_play_n13 (wI M 20 9 ((gI M 20 9) - 1)) := hT.trans (if_neg c4)
    have hV : vc_X7_play_n13 (wI M 20 9 ((gI M 20 9) - 1)) := iteF hV c4
    refine lv_aload_n hx hb dX7_play_7 rfl (lv_at hl 0 rfl) ?_
    refine lv_dup hx hb dX7_play_8 rfl ?_
    refine q_geti (T := TX7) hx hb hB uw_X7 hown hK hC rfl (hL 20 (by decide) (by decide)) rfl 9 (by decide) rfl (hB _ mw_3_53) dX7_play_9 ?_
    refine lv_iconst (v := 1) hx hb dX7_play_12 (by decide) ?_
    refine lv_isub hx hb dX7_play_13 ?_
    refine q_puti (T := TX7) hx hb hB uw_X7 tyX7 tyX7_ok nmX7 hown hK hC rfl (hL 20 (by decide) (by decide)) rfl 9 (by decide) rfl (hB _ mw_3_53) rfl rfl rfl rfl dX7_play_14 (fun H locs hC => ?_)
    obtain ⟨M2, eM2⟩ : ∃ z : Mem, z = wI M 20 9 ((gI M 20 9) - 1) := ⟨_, rfl⟩
    rw [← eM2] at hC
    have hT : sp_X7_play M = sp_X7_play_n13 M2 := by rw [eM2]; exact hT
    have hV : vc_X7_play_n13 M2 := by rw [eM2]; exact hV
    refine lv_aload_n hx hb dX7_play_17 rfl (lv_at hl 0 rfl) ?_
    refine q_geti (T := TX7) hx hb hB uw_X7 hown hK hC rfl (hL 20 (by decide) (by decide)) rfl 9 (by decide) rfl (hB _ mw_3_53) dX7_play_18 ?_
    refine lv_if_ne (tgt := 41) hx hb dX7_play_21 (by decide) (fun c21 => ?_) (fun c21 => ?_)
    · have hT : sp_X7_play M = sp_X7_play_B41 M2 := hT.trans (if_neg c21)
      have hV : vc_X7_play_B41 M2 := iteF hV c21
      exact J41 M2 _ _ _  hT hV hC (lv_sub hl [0] rfl)
    · have hT : sp_X7_play M = sp_X7_play_n12 (sp_X7_calm M2) := hT.trans (if_pos c21)
      have hV : vc_X7_calm M2 ∧ (vc_X7_play_n12 (sp_X7_calm M2)) := iteT hV c21
      refine lv_aload_n hx hb dX7_play_24 rfl (lv_at hl 0 rfl) ?_
      obtain ⟨v25, hV⟩ : vc_X7_calm M2 ∧ (vc_X7_play_n12 (sp_X7_calm M2)) := hV
      refine q_Cv (q_V (own := "MazeBoardModel") (y := yX7_calm) (As := []) (rest := []) ⟨hx, hb, hml, hown, hB⟩ hK hE hC (c_X7_calm l D cy ad L H.size (hL.sub (by decide) (by decide)) M2  v25) rfl (hL 20 (by decide) (by decide)) rfl mw_3_169 mw_3_171 mw_0_29 mw_1_7 mw_3_172 rfl yd_X7_calm ⟨rfl, rfl⟩ ⟨Nat.le_of_ble_eq_true rfl, Nat.le_of_ble_eq_true rfl⟩ rfl hl.1 rfl (Nat.le_of_ble_eq_true rfl) dX7_play_25 ⟨Nat.le_refl _, Nat.le_refl _⟩) hC (fun M3 H locs eM3 hC => ?_)
      have hT : sp_X7_play M = sp_X7_play_n12 M3 := by rw [eM3]; exact hT
      have hV : vc_X7_play_n12 M3 := by rw [eM3]; exact hV
      refine lv_goto (tgt := 41) hx hb dX7_play_28 (by decide) ?_
      exact J41 M3 _ _ _  hT hV hC (lv_sub hl [0] rfl)
set_option maxHeartbeats 4000000 in
set_option maxRecDepth 100000 in
theorem c_X7_voice (l : Launch) (D : va_G) (cy ad : Nat → Nat) (L : List Nat) (sz : Nat) (hL : lr 20 34 L) (M : Mem) (a1 : Int32) (a2 : UInt32) (a3 : Int32) (hV : vc_X7_voice M a1 a2 a3) : Met l yX7_voice (Cond.code yX7_voice cX7_voice 4 (none) :: BG) ({ frames := 0, cells := 0, slots := 0, locals := 0 }) (va_Pc [.ref (ad 20), .int a1, .float a2, .int a3] (PW D cy ad L M sz)) (va_Qv (fun N => N = sp_X7_voice M a1 a2 a3) (OW D cy ad L sz) (fA ad L sz)) 0 0 (fA ad L sz) := by
  refine q_start (by decide) (Nat.le_of_ble_eq_true rfl) (fun p e s m below meth c H locs ls hsz hx hb hr hlocks hml hown hB hK hE hC hl => ?_)
  subst hsz
  have hown : s.vm.findClass "MazeBoardModel" = some m.cls := hown
  have hl : lv_has ls 4 [(0, .ref (ad 20)), (1, .int a1), (2, .float a2), (3, .int a3)] := hl
  have hT : sp_X7_voice M a1 a2 a3 = sp_X7_voice_n2 a1 a3 (wF M 34 a1.toNatClampNeg a2) := rfl
  have hV : vp_in a1 3 ∧ (vc_X7_voice_n2 a1 a3 (wF M 34 a1.toNatClampNeg a2)) := hV
  refine lv_aload_n hx hb dX7_voice_0 rfl (lv_at hl 0 rfl) ?_
  refine q_getr (T := TX7) hx hb hB uw_X7 hown hK hC rfl (hL 20 (by decide) (by decide)) rfl 27 (by decide) rfl rfl (hB _ mw_3_71) dX7_voice_1 ?_
  refine lv_iload_n hx hb dX7_voice_4 rfl (lv_at hl 1 rfl) ?_
  refine lv_fload_n hx hb dX7_voice_5 rfl (lv_at hl 2 rfl) ?_
  obtain ⟨w6, hV⟩ : vp_in a1 3 ∧ (vc_X7_voice_n2 a1 a3 (wF M 34 a1.toNatClampNeg a2)) := hV
  refine q_fast hx hb hK hC rfl (hL 34 (by decide) (by decide)) rfl w6 rfl dX7_voice_6 (fun H locs hC => ?_)
  obtain ⟨M1, eM1⟩ : ∃ z : Mem, z = wF M 34 a1.toNatClampNeg a2 := ⟨_, rfl⟩
  rw [← eM1] at hC
  have hT : sp_X7_voice M a1 a2 a3 = sp_X7_voice_n2 a1 a3 M1 := by rw [eM1]; exact hT
  have hV : vc_X7_voice_n2 a1 a3 M1 := by rw [eM1]; exact hV
  refine lv_aload_n hx hb dX7_voice_7 rfl (lv_at hl 0 rfl) ?_
  refine q_getr (T := TX7) hx hb hB uw_X7 hown hK hC rfl (hL 20 (by decide) (by decide)) rfl 26 (by decide) rfl rfl (hB _ mw_3_70) dX7_voice_8 ?_
  refine lv_iload_n hx hb dX7_voice_11 rfl (lv_at hl 1 rfl) ?_
  refine lv_iload_n hx hb dX7_voice_12 rfl (lv_at hl 3 rfl) ?_
  have w13 : vp_in a1 3 := hV
  refine q_iast hx hb hK hC rfl (hL 33 (by decide) (by decide)) rfl w13 rfl dX7_voice_13 (fun H locs hC => ?_)
  obtain ⟨M2, eM2⟩ : ∃ z : Mem, z = wI M1 33 a1.toNatClampNeg a3 := ⟨_, rfl⟩
  rw [← eM2] at hC
  have hT : sp_X7_voice M a1 a2 a3 = sp_X7_voice_n1 M2 := by rw [eM2]; exact hT
  exact q_retv hx hb hr hlocks hC hT.symm dX7_voice_14
set_option maxHeartbeats 4000000 in
set_option maxRecDepth 100000 in
theorem c_X7_hear (l : Launch) (D : va_G) (cy ad : Nat → Nat) (L : List Nat) (sz : Nat) (hL : lr 20 34 L) (M : Mem)  (hV : vc_X7_hear M ) : Met l yX7_hear (Cond.code yX7_hear cX7_hear 2 (none) :: BG) ({ frames := 1, cells := 0, slots := 0, locals := 23 }) (va_Pc [.ref (ad 20)] (PW D cy ad L M sz)) (va_Qv (fun N => N = sp_X7_hear M) (OW D cy ad L sz) (fA ad L sz)) 0 0 (fA ad L sz) := by
  refine q_start (by decide) (Nat.le_of_ble_eq_true rfl) (fun p e s m below meth c H locs ls hsz hx hb hr hlocks hml hown hB hK hE hC hl => ?_)
  subst hsz
  have hown : s.vm.findClass "MazeBoardModel" = some m.cls := hown
  have hl : lv_has ls 2 [(0, .ref (ad 20))] := hl
  have J153 : ∀ (M14 : Mem) (H : Heap) (locs : List Loc) (ls : Array Slot) (hT : sp_X7_hear M = sp_X7_hear_B153 M14) (hC : Cx D cy ad R0 L (fA ad L s.heap.size) s M14 H locs) (hl : lv_has ls 2 []), W p l e ({ frames := 1, cells := 0, slots := 0, locals := 23 }) s m ([.ref (ad 20)] : List Value).toArray below meth c H locs 0 0 (MQ below (va_Qv (fun N => N = sp_X7_hear M) (OW D cy ad L s.heap.size) (fA ad L s.heap.size)) ([.ref (ad 20)] : List Value).toArray s 0 0 (fA ad L s.heap.size)) (F0 m 153 ls []) := by
    intro M14 H locs ls  hT hC hl
    have hT : sp_X7_hear M = M14 := hT
    exact q_retv hx hb hr hlocks hC hT.symm dX7_hear_153
  have J137 : ∀ (M12 : Mem) (H : Heap) (locs : List Loc) (ls : Array Slot) (hT : sp_X7_hear M = sp_X7_hear_B137 M12) (hV : vc_X7_hear_B137 M12) (hC : Cx D cy ad R0 L (fA ad L s.heap.size) s M12 H locs) (hl : lv_has ls 2 [(0, .ref (ad 20))]), W p l e ({ frames := 1, cells := 0, slots := 0, locals := 23 }) s m ([.ref (ad 20)] : List Value).toArray below meth c H locs 0 0 (MQ below (va_Qv (fun N => N = sp_X7_hear M) (OW D cy ad L s.heap.size) (fA ad L s.heap.size)) ([.ref (ad 20)] : List Value).toArray s 0 0 (fA ad L s.heap.size)) (F0 m 137 ls []) := by
    intro M12 H locs ls  hT hV hC hl
    have hT : sp_X7_hear M = if (gI M12 20 30) = 0 then (sp_X7_hear_B153 M12) else (sp_X7_hear_n1 (sp_X7_voice M12 2 1069547520 100)) := hT
    have hV : if (gI M12 20 30) = 0 then True else vc_X7_voice M12 2 1069547520 100 := hV
    refine lv_aload_n hx hb dX7_hear_137 rfl (lv_at hl 0 rfl) ?_
    refine q_geti (T := TX7) hx hb hB uw_X7 hown hK hC rfl (hL 20 (by decide) (by decide)) rfl 30 (by decide) rfl (hB _ mw_3_74) dX7_hear_138 ?_
    refine lv_if_eq (tgt := 153) hx hb dX7_hear_141 (by decide) (fun c141 => ?_) (fun c141 => ?_)
    · have hT : sp_X7_hear M = sp_X7_hear_B153 M12 := hT.trans (if_pos c141)
      exact J153 M12 _ _ _  hT hC (lv_sub hl [] rfl)
    · have hT : sp_X7_hear M = sp_X7_hear_n1 (sp_X7_voice M12 2 1069547520 100) := hT.trans (if_neg c141)
      have hV : vc_X7_voice M12 2 1069547520 100 := iteF hV c141
      refine lv_aload_n hx hb dX7_hear_144 rfl (lv_at hl 0 rfl) ?_
      refine lv_iconst (v := 2) hx hb dX7_hear_145 (by decide) ?_
      refine lv_ldcf (v := 1069547520) hx hb hown (hB _ mw_4_26) dX7_hear_146 ?_
      refine lv_bipush (v := 100) hx hb dX7_hear_148 (by decide) ?_
      have v150 : vc_X7_voice M12 2 1069547520 100 := hV
      refine q_Cv (q_V (own := "MazeBoardModel") (y := yX7_voice) (As := [.int 2, .float 1069547520, .int 100]) (rest := []) ⟨hx, hb, hml, hown, hB⟩ hK hE hC (c_X7_voice l D cy ad L H.size (hL.sub (by decide) (by decide)) M12 2 1069547520 100 v150) rfl (hL 20 (by decide) (by decide)) rfl mw_4_21 mw_4_23 mw_0_46 mw_1_7 mw_4_24 rfl yd_X7_voice ⟨rfl, rfl⟩ ⟨Nat.le_of_ble_eq_true rfl, Nat.le_of_ble_eq_true rfl⟩ rfl hl.1 rfl (Nat.le_of_ble_eq_true rfl) dX7_hear_150 ⟨Nat.le_refl _, Nat.le_refl _⟩) hC (fun M13 H locs eM13 hC => ?_)
      have hT : sp_X7_hear M = sp_X7_hear_n1 M13 := by rw [eM13]; exact hT
      exact J153 M13 _ _ _  hT hC (lv_sub hl [] rfl)
  have J120 : ∀ (M10 : Mem) (H : Heap) (locs : List Loc) (ls : Array Slot) (hT : sp_X7_hear M = sp_X7_hear_B120 M10) (hV : vc_X7_hear_B120 M10) (hC : Cx D cy ad R0 L (fA ad L s.heap.size) s M10 H locs) (hl : lv_has ls 2 [(0, .ref (ad 20))]), W p l e ({ frames := 1, cells := 0, slots := 0, locals := 23 }) s m ([.ref (ad 20)] : List Value).toArray below meth c H locs 0 0 (MQ below (va_Qv (fun N => N = sp_X7_hear M) (OW D cy ad L s.heap.size) (fA ad L s.heap.size)) ([.ref (ad 20)] : List Value).toArray s 0 0 (fA ad L s.heap.size)) (F0 m 120 ls []) := by
    intro M10 H locs ls  hT hV hC hl
    have hT : sp_X7_hear M = if (gI M10 20 29) = 0 then (sp_X7_hear_B137 M10) else (sp_X7_hear_n2 (sp_X7_voice M10 2 1069547520 1500)) := hT
    have hV : if (gI M10 20 29) = 0 then vc_X7_hear_B137 M10 else (vc_X7_voice M10 2 1069547520 1500 ∧ (vc_X7_hear_n2 (sp_X7_voice M10 2 1069547520 1500))) := hV
    refine lv_aload_n hx hb dX7_hear_120 rfl (lv_at hl 0 rfl) ?_
    refine q_geti (T := TX7) hx hb hB uw_X7 hown hK hC rfl (hL 20 (by decide) (by decide)) rfl 29 (by decide) rfl (hB _ mw_3_73) dX7_hear_121 ?_
    refine lv_if_eq (tgt := 137) hx hb dX7_hear_124 (by decide) (fun c124 => ?_) (fun c124 => ?_)
    · have hT : sp_X7_hear M = sp_X7_hear_B137 M10 := hT.trans (if_pos c124)
      have hV : vc_X7_hear_B137 M10 := iteT hV c124
      exact J137 M10 _ _ _  hT hV hC (lv_sub hl [0] rfl)
    · have hT : sp_X7_hear M = sp_X7_hear_n2 (sp_X7_voice M10 2 1069547520 1500) := hT.trans (if_neg c124)
      have hV : vc_X7_voice M10 2 1069547520 1500 ∧ (vc_X7_hear_n2 (sp_X7_voice M10 2 1069547520 1500)) := iteF hV c124
      refine lv_aload_n hx hb dX7_hear_127 rfl (lv_at hl 0 rfl) ?_
      refine lv_iconst (v := 2) hx hb dX7_hear_128 (by decide) ?_
      refine lv_ldcf (v := 1069547520) hx hb hown (hB _ mw_4_26) dX7_hear_129 ?_
      refine lv_sipush (v := 1500) hx hb dX7_hear_131 (by decide) ?_
      obtain ⟨v134, hV⟩ : vc_X7_voice M10 2 1069547520 1500 ∧ (vc_X7_hear_n2 (sp_X7_voice M10 2 1069547520 1500)) := hV
      refine q_Cv (q_V (own := "MazeBoardModel") (y := yX7_voice) (As := [.int 2, .float 1069547520, .int 1500]) (rest := []) ⟨hx, hb, hml, hown, hB⟩ hK hE hC (c_X7_voice l D cy ad L H.size (hL.sub (by decide) (by decide)) M10 2 1069547520 1500 v134) rfl (hL 20 (by decide) (by decide)) rfl mw_4_21 mw_4_23 mw_0_46 mw_1_7 mw_4_24 rfl yd_X7_voice ⟨rfl, rfl⟩ ⟨Nat.le_of_ble_eq_true rfl, Nat.le_of_ble_eq_true rfl⟩ rfl hl.1 rfl (Nat.le_of_ble_eq_true rfl) dX7_hear_134 ⟨Nat.le_refl _, Nat.le_refl _⟩) hC (fun M11 H locs eM11 hC => ?_)
      have hT : sp_X7_hear M = sp_X7_hear_n2 M11 := by rw [eM11]; exact hT
      have hV : vc_X7_hear_n2 M11 := by rw [eM11]; exact hV
      exact J137 M11 _ _ _  hT hV hC (lv_sub hl [0] rfl)
  have J117 : ∀ (M7 : Mem) (x8 : Int32) (H : Heap) (locs : List Loc) (ls : Array Slot) (hT : sp_X7_hear M = sp_X7_hear_B117 M7 x8) (hV : vc_X7_hear_B117 M7 x8) (hC : Cx D cy ad R0 L (fA ad L s.heap.size) s M7 H locs) (hl : lv_has ls 2 [(0, .ref (ad 20))]), W p l e ({ frames := 1, cells := 0, slots := 0, locals := 23 }) s m ([.ref (ad 20)] : List Value).toArray below meth c H locs 0 0 (MQ below (va_Qv (fun N => N = sp_X7_hear M) (OW D cy ad L s.heap.size) (fA ad L s.heap.size)) ([.ref (ad 20)] : List Value).toArray s 0 0 (fA ad L s.heap.size)) (F0 m 117 ls [.int x8, .float 1056964608, .int 1, .ref (ad 20)]) := by
    intro M7 x8 H locs ls  hT hV hC hl
    have hT : sp_X7_hear M = sp_X7_hear_n3 (sp_X7_voice M7 1 1056964608 x8) := hT
    have hV : vc_X7_voice M7 1 1056964608 x8 ∧ (vc_X7_hear_n3 (sp_X7_voice M7 1 1056964608 x8)) := hV
    obtain ⟨v117, hV⟩ : vc_X7_voice M7 1 1056964608 x8 ∧ (vc_X7_hear_n3 (sp_X7_voice M7 1 1056964608 x8)) := hV
    refine q_Cv (q_V (own := "MazeBoardModel") (y := yX7_voice) (As := [.int 1, .float 1056964608, .int x8]) (rest := []) ⟨hx, hb, hml, hown, hB⟩ hK hE hC (c_X7_voice l D cy ad L H.size (hL.sub (by decide) (by decide)) M7 1 1056964608 x8 v117) rfl (hL 20 (by decide) (by decide)) rfl mw_4_21 mw_4_23 mw_0_46 mw_1_7 mw_4_24 rfl yd_X7_voice ⟨rfl, rfl⟩ ⟨Nat.le_of_ble_eq_true rfl, Nat.le_of_ble_eq_true rfl⟩ rfl hl.1 rfl (Nat.le_of_ble_eq_true rfl) dX7_hear_117 ⟨Nat.le_refl _, Nat.le_refl _⟩) hC (fun M9 H locs eM9 hC => ?_)
    have hT : sp_X7_hear M = sp_X7_hear_n3 M9 := by rw [eM9]; exact hT
    have hV : vc_X7_hear_n3 M9 := by rw [eM9]; exact hV
    exact J120 M9 _ _ _  hT hV hC (lv_sub hl [0] rfl)
  have J69 : ∀ (M7 : Mem) (H : Heap) (locs : List Loc) (ls : Array Slot) (hT : sp_X7_hear M = sp_X7_hear_B69 M7) (hV : vc_X7_hear_B69 M7) (hC : Cx D cy ad R0 L (fA ad L s.heap.size) s M7 H locs) (hl : lv_has ls 2 [(0, .ref (ad 20))]), W p l e ({ frames := 1, cells := 0, slots := 0, locals := 23 }) s m ([.ref (ad 20)] : List Value).toArray below meth c H locs 0 0 (MQ below (va_Qv (fun N => N = sp_X7_hear M) (OW D cy ad L s.heap.size) (fA ad L s.heap.size)) ([.ref (ad 20)] : List Value).toArray s 0 0 (fA ad L s.heap.size)) (F0 m 69 ls []) := by
    intro M7 H locs ls  hT hV hC hl
    have hT : sp_X7_hear M = if (gI M7 20 3) = 0 then (sp_X7_hear_B120 M7) else (if (gI M7 20 9) ≤ 0 then (if (sp_X7_scatters M7) = 0 then (sp_X7_hear_B117 M7 (300 + (10 * (gI M7 20 8)))) else (sp_X7_hear_B117 M7 300)) else (sp_X7_hear_B117 M7 600)) := hT
    have hV : if (gI M7 20 3) = 0 then vc_X7_hear_B120 M7 else (if (gI M7 20 9) ≤ 0 then (vc_X7_scatters M7 ∧ (if (sp_X7_scatters M7) = 0 then (vc_X7_hear_B117 M7 (300 + (10 * (gI M7 20 8)))) else vc_X7_hear_B117 M7 300)) else vc_X7_hear_B117 M7 600) := hV
    refine lv_aload_n hx hb dX7_hear_69 rfl (lv_at hl 0 rfl) ?_
    refine q_geti (T := TX7) hx hb hB uw_X7 hown hK hC rfl (hL 20 (by decide) (by decide)) rfl 3 (by decide) rfl (hB _ mw_3_47) dX7_hear_70 ?_
    refine lv_if_eq (tgt := 120) hx hb dX7_hear_73 (by decide) (fun c73 => ?_) (fun c73 => ?_)
    · have hT : sp_X7_hear M = sp_X7_hear_B120 M7 := hT.trans (if_pos c73)
      have hV : vc_X7_hear_B120 M7 := iteT hV c73
      exact J120 M7 _ _ _  hT hV hC (lv_sub hl [0] rfl)
    · have hT : sp_X7_hear M = if (gI M7 20 9) ≤ 0 then (if (sp_X7_scatters M7) = 0 then (sp_X7_hear_B117 M7 (300 + (10 * (gI M7 20 8)))) else (sp_X7_hear_B117 M7 300)) else (sp_X7_hear_B117 M7 600) := hT.trans (if_neg c73)
      have hV : if (gI M7 20 9) ≤ 0 then (vc_X7_scatters M7 ∧ (if (sp_X7_scatters M7) = 0 then (vc_X7_hear_B117 M7 (300 + (10 * (gI M7 20 8)))) else vc_X7_hear_B117 M7 300)) else vc_X7_hear_B117 M7 600 := iteF hV c73
      refine lv_aload_n hx hb dX7_hear_76 rfl (lv_at hl 0 rfl) ?_
      refine lv_iconst (v := 1) hx hb dX7_hear_77 (by decide) ?_
      refine lv_ldcf (v := 1056964608) hx hb hown (hB _ mw_4_25) dX7_hear_78 ?_
      refine lv_aload_n hx hb dX7_hear_80 rfl (lv_at hl 0 rfl) ?_
      refine q_geti (T := TX7) hx hb hB uw_X7 hown hK hC rfl (hL 20 (by decide) (by decide)) rfl 9 (by decide) rfl (hB _ mw_3_53) dX7_hear_81 ?_
      refine lv_if_le (tgt := 93) hx hb dX7_hear_84 (by decide) (fun c84 => ?_) (fun c84 => ?_)
      · have hT : sp_X7_hear M = if (sp_X7_scatters M7) = 0 then (sp_X7_hear_B117 M7 (300 + (10 * (gI M7 20 8)))) else (sp_X7_hear_B117 M7 300) := hT.trans (if_pos c84)
        have hV : vc_X7_scatters M7 ∧ (if (sp_X7_scatters M7) = 0 then (vc_X7_hear_B117 M7 (300 + (10 * (gI M7 20 8)))) else vc_X7_hear_B117 M7 300) := iteT hV c84
        refine lv_aload_n hx hb dX7_hear_93 rfl (lv_at hl 0 rfl) ?_
        obtain ⟨v94, hV⟩ : vc_X7_scatters M7 ∧ (if (sp_X7_scatters M7) = 0 then (vc_X7_hear_B117 M7 (300 + (10 * (gI M7 20 8)))) else vc_X7_hear_B117 M7 300) := hV
        refine q_Ci (q_V (own := "MazeBoardModel") (y := yX7_scatters) (As := []) (rest := [.float 1056964608, .int 1, .ref (ad 20)]) ⟨hx, hb, hml, hown, hB⟩ hK hE hC (c_X7_scatters l D cy ad L H.size (hL.sub (by decide) (by decide)) M7  v94) rfl (hL 20 (by decide) (by decide)) rfl mw_3_235 mw_3_237 mw_0_41 mw_1_7 mw_3_238 rfl yd_X7_scatters ⟨rfl, rfl⟩ ⟨Nat.le_of_ble_eq_true rfl, Nat.le_of_ble_eq_true rfl⟩ rfl hl.1 rfl (Nat.le_of_ble_eq_true rfl) dX7_hear_94 ⟨Nat.le_refl _, Nat.le_refl _⟩) hC (fun r N_ H locs hp hC => ?_)
        obtain ⟨hr_, hM_⟩ := hp
        subst hr_
        rw [hM_] at hC
        refine lv_if_eq (tgt := 106) hx hb dX7_hear_97 (by decide) (fun c97 => ?_) (fun c97 => ?_)
        · have hT : sp_X7_hear M = sp_X7_hear_B117 M7 (300 + (10 * (gI M7 20 8))) := hT.trans (if_pos c97)
          have hV : vc_X7_hear_B117 M7 (300 + (10 * (gI M7 20 8))) := iteT hV c97
          refine lv_sipush (v := 300) hx hb dX7_hear_106 (by decide) ?_
          refine lv_bipush (v := 10) hx hb dX7_hear_109 (by decide) ?_
          refine lv_aload_n hx hb dX7_hear_111 rfl (lv_at hl 0 rfl) ?_
          refine q_geti (T := TX7) hx hb hB uw_X7 hown hK hC rfl (hL 20 (by decide) (by decide)) rfl 8 (by decide) rfl (hB _ mw_3_52) dX7_hear_112 ?_
          refine lv_imul hx hb dX7_hear_115 ?_
          refine lv_iadd hx hb dX7_hear_116 ?_
          exact J117 M7 (300 + (10 * (gI M7 20 8))) _ _ _  hT hV hC (lv_sub hl [0] rfl)
        · have hT : sp_X7_hear M = sp_X7_hear_B117 M7 300 := hT.trans (if_neg c97)
          have hV : vc_X7_hear_B117 M7 300 := iteF hV c97
          refine lv_sipush (v := 300) hx hb dX7_hear_100 (by decide) ?_
          refine lv_goto (tgt := 117) hx hb dX7_hear_103 (by decide) ?_
          exact J117 M7 300 _ _ _  hT hV hC (lv_sub hl [0] rfl)
      · have hT : sp_X7_hear M = sp_X7_hear_B117 M7 600 := hT.trans (if_neg c84)
        have hV : vc_X7_hear_B117 M7 600 := iteF hV c84
        refine lv_sipush (v := 600) hx hb dX7_hear_87 (by decide) ?_
        refine lv_goto (tgt := 117) hx hb dX7_hear_90 (by decide) ?_
        exact J117 M7 600 _ _ _  hT hV hC (lv_sub hl [0] rfl)
  have J2 : ∀ (n : Nat) (x1 : Int32) (M2 : Mem) (H : Heap) (locs : List Loc) (ls : Array Slot) (hT : sp_X7_hear M = sp_X7_hear_B2 n x1 M2) (hV : vc_X7_hear_B2 n x1 M2) (hC : Cx D cy ad R0 L (fA ad L s.heap.size) s M2 H locs) (hl : lv_has ls 2 [(0, .ref (ad 20)), (1, .int x1)]), W p l e ({ frames := 1, cells := 0, slots := 0, locals := 23 }) s m ([.ref (ad 20)] : List Value).toArray below meth c H locs 0 0 (MQ below (va_Qv (fun N => N = sp_X7_hear M) (OW D cy ad L s.heap.size) (fA ad L s.heap.size)) ([.ref (ad 20)] : List Value).toArray s 0 0 (fA ad L s.heap.size)) (F0 m 2 ls []) := by
    intro n
    induction n with
    | zero => intro x1 M2 H locs ls  hT hV; exact hV.elim
    | succ n ih =>
      intro x1 M2 H locs ls  hT hV hC hl
      have hT : sp_X7_hear M = if 3 ≤ x1 then (if (gI M2 20 28) = 0 then (sp_X7_hear_B69 M2) else (sp_X7_hear_n4 (sp_X7_voice M2 0 FP.fconst1 900))) else (sp_X7_hear_n7 (sp_X7_hear_B2 n) x1 (wI M2 32 x1.toNatClampNeg ((((gI M2 32 x1.toNatClampNeg) + (gI M2 33 x1.toNatClampNeg)) <<< (16 &&& 31)) >>> (16 &&& 31)))) := hT
      have hV : if 3 ≤ x1 then (if (gI M2 20 28) = 0 then vc_X7_hear_B69 M2 else (vc_X7_voice M2 0 FP.fconst1 900 ∧ (vc_X7_hear_n4 (sp_X7_voice M2 0 FP.fconst1 900)))) else (vp_in x1 3 ∧ (vp_in x1 3 ∧ (vp_in x1 3 ∧ (vc_X7_hear_n7 (vc_X7_hear_B2 n) x1 (wI M2 32 x1.toNatClampNeg ((((gI M2 32 x1.toNatClampNeg) + (gI M2 33 x1.toNatClampNeg)) <<< (16 &&& 31)) >>> (16 &&& 31))))))) := hV
      refine lv_iload_n hx hb dX7_hear_2 rfl (lv_at hl 1 rfl) ?_
      refine lv_iconst (v := 3) hx hb dX7_hear_3 (by decide) ?_
      refine lv_icmp_ge (tgt := 53) hx hb dX7_hear_4 (by decide) (fun c4 => ?_) (fun c4 => ?_)
      · have hT : sp_X7_hear M = if (gI M2 20 28) = 0 then (sp_X7_hear_B69 M2) else (sp_X7_hear_n4 (sp_X7_voice M2 0 FP.fconst1 900)) := hT.trans (if_pos c4)
        have hV : if (gI M2 20 28) = 0 then vc_X7_hear_B69 M2 else (vc_X7_voice M2 0 FP.fconst1 900 ∧ (vc_X7_hear_n4 (sp_X7_voice M2 0 FP.fconst1 900))) := iteT hV c4
        refine lv_aload_n hx hb dX7_hear_53 rfl (lv_at hl 0 rfl) ?_
        refine q_geti (T := TX7) hx hb hB uw_X7 hown hK hC rfl (hL 20 (by decide) (by decide)) rfl 28 (by decide) rfl (hB _ mw_3_72) dX7_hear_54 ?_
        refine lv_if_eq (tgt := 69) hx hb dX7_hear_57 (by decide) (fun c57 => ?_) (fun c57 => ?_)
        · have hT : sp_X7_hear M = sp_X7_hear_B69 M2 := hT.trans (if_pos c57)
          have hV : vc_X7_hear_B69 M2 := iteT hV c57
          exact J69 M2 _ _ _  hT hV hC (lv_sub hl [0] rfl)
        · have hT : sp_X7_hear M = sp_X7_hear_n4 (sp_X7_voice M2 0 FP.fconst1 900) := hT.trans (if_neg c57)
          have hV : vc_X7_voice M2 0 FP.fconst1 900 ∧ (vc_X7_hear_n4 (sp_X7_voice M2 0 FP.fconst1 900)) := iteF hV c57
          refine lv_aload_n hx hb dX7_hear_60 rfl (lv_at hl 0 rfl) ?_
          refine lv_iconst (v := 0) hx hb dX7_hear_61 (by decide) ?_
          refine lv_fconst1 hx hb dX7_hear_62 ?_
          refine lv_sipush (v := 900) hx hb dX7_hear_63 (by decide) ?_
          obtain ⟨v66, hV⟩ : vc_X7_voice M2 0 FP.fconst1 900 ∧ (vc_X7_hear_n4 (sp_X7_voice M2 0 FP.fconst1 900)) := hV
          refine q_Cv (q_V (own := "MazeBoardModel") (y := yX7_voice) (As := [.int 0, .float FP.fconst1, .int 900]) (rest := []) ⟨hx, hb, hml, hown, hB⟩ hK hE hC (c_X7_voice l D cy ad L H.size (hL.sub (by decide) (by decide)) M2 0 FP.fconst1 900 v66) rfl (hL 20 (by decide) (by decide)) rfl mw_4_21 mw_4_23 mw_0_46 mw_1_7 mw_4_24 rfl yd_X7_voice ⟨rfl, rfl⟩ ⟨Nat.le_of_ble_eq_true rfl, Nat.le_of_ble_eq_true rfl⟩ rfl hl.1 rfl (Nat.le_of_ble_eq_true rfl) dX7_hear_66 ⟨Nat.le_refl _, Nat.le_refl _⟩) hC (fun M3 H locs eM3 hC => ?_)
          have hT : sp_X7_hear M = sp_X7_hear_n4 M3 := by rw [eM3]; exact hT
          have hV : vc_X7_hear_n4 M3 := by rw [eM3]; exact hV
          exact J69 M3 _ _ _  hT hV hC (lv_sub hl [0] rfl)
      · have hT : sp_X7_hear M = sp_X7_hear_n7 (sp_X7_hear_B2 n) x1 (wI M2 32 x1.toNatClampNeg ((((gI M2 32 x1.toNatClampNeg) + (gI M2 33 x1.toNatClampNeg)) <<< (16 &&& 31)) >>> (16 &&& 31))) := hT.trans (if_neg c4)
        have hV : vp_in x1 3 ∧ (vp_in x1 3 ∧ (vp_in x1 3 ∧ (vc_X7_hear_n7 (vc_X7_hear_B2 n) x1 (wI M2 32 x1.toNatClampNeg ((((gI M2 32 x1.toNatClampNeg) + (gI M2 33 x1.toNatClampNeg)) <<< (16 &&& 31)) >>> (16 &&& 31)))))) := iteF hV c4
        refine lv_aload_n hx hb dX7_hear_7 rfl (lv_at hl 0 rfl) ?_
        refine q_getr (T := TX7) hx hb hB uw_X7 hown hK hC rfl (hL 20 (by decide) (by decide)) rfl 25 (by decide) rfl rfl (hB _ mw_3_69) dX7_hear_8 ?_
        refine lv_iload_n hx hb dX7_hear_11 rfl (lv_at hl 1 rfl) ?_
        refine lv_aload_n hx hb dX7_hear_12 rfl (lv_at hl 0 rfl) ?_
        refine q_getr (T := TX7) hx hb hB uw_X7 hown hK hC rfl (hL 20 (by decide) (by decide)) rfl 25 (by decide) rfl rfl (hB _ mw_3_69) dX7_hear_13 ?_
        refine lv_iload_n hx hb dX7_hear_16 rfl (lv_at hl 1 rfl) ?_
        obtain ⟨w17, hV⟩ : vp_in x1 3 ∧ (vp_in x1 3 ∧ (vp_in x1 3 ∧ (vc_X7_hear_n7 (vc_X7_hear_B2 n) x1 (wI M2 32 x1.toNatClampNeg ((((gI M2 32 x1.toNatClampNeg) + (gI M2 33 x1.toNatClampNeg)) <<< (16 &&& 31)) >>> (16 &&& 31)))))) := hV
        refine q_iald hx hb hK hC rfl (hL 32 (by decide) (by decide)) rfl w17 rfl dX7_hear_17 ?_
        refine lv_aload_n hx hb dX7_hear_18 rfl (lv_at hl 0 rfl) ?_
        refine q_getr (T := TX7) hx hb hB uw_X7 hown hK hC rfl (hL 20 (by decide) (by decide)) rfl 26 (by decide) rfl rfl (hB _ mw_3_70) dX7_hear_19 ?_
        refine lv_iload_n hx hb dX7_hear_22 rfl (lv_at hl 1 rfl) ?_
        obtain ⟨w23, hV⟩ : vp_in x1 3 ∧ (vp_in x1 3 ∧ (vc_X7_hear_n7 (vc_X7_hear_B2 n) x1 (wI M2 32 x1.toNatClampNeg ((((gI M2 32 x1.toNatClampNeg) + (gI M2 33 x1.toNatClampNeg)) <<< (16 &&& 31)) >>> (16 &&& 31))))) := hV
        refine q_iald hx hb hK hC rfl (hL 33 (by decide) (by decide)) rfl w23 rfl dX7_hear_23 ?_
        refine lv_iadd hx hb dX7_hear_24 ?_
        refine lv_bipush (v := 16) hx hb dX7_hear_25 (by decide) ?_
        refine lv_ishl hx hb dX7_hear_27 ?_
        refine lv_bipush (v := 16) hx hb dX7_hear_28 (by decide) ?_
        refine lv_ishr hx hb dX7_hear_30 ?_
        obtain ⟨w31, hV⟩ : vp_in x1 3 ∧ (vc_X7_hear_n7 (vc_X7_hear_B2 n) x1 (wI M2 32 x1.toNatClampNeg ((((gI M2 32 x1.toNatClampNeg) + (gI M2 33 x1.toNatClampNeg)) <<< (16 &&& 31)) >>> (16 &&& 31)))) := hV
        refine q_iast hx hb hK hC rfl (hL 32 (by decide) (by decide)) rfl w31 rfl dX7_hear_31 (fun H locs hC => ?_)
        obtain ⟨M4, eM4⟩ : ∃ z : Mem, z = wI M2 32 x1.toNatClampNeg ((((gI M2 32 x1.toNatClampNeg) + (gI M2 33 x1.toNatClampNeg)) <<< (16 &&& 31)) >>> (16 &&& 31)) := ⟨_, rfl⟩
        rw [← eM4] at hC
        have hT : sp_X7_hear M = sp_X7_hear_n7 (sp_X7_hear_B2 n) x1 M4 := by rw [eM4]; exact hT
        have hV : vc_X7_hear_n7 (vc_X7_hear_B2 n) x1 M4 := by rw [eM4]; exact hV
        refine lv_aload_n hx hb dX7_hear_32 rfl (lv_at hl 0 rfl) ?_
        refine q_getr (T := TX7) hx hb hB uw_X7 hown hK hC rfl (hL 20 (by decide) (by decide)) rfl 27 (by decide) rfl rfl (hB _ mw_3_71) dX7_hear_33 ?_
        refine lv_iload_n hx hb dX7_hear_36 rfl (lv_at hl 1 rfl) ?_
        refine lv_aload_n hx hb dX7_hear_37 rfl (lv_at hl 0 rfl) ?_
        refine q_getr (T := TX7) hx hb hB uw_X7 hown hK hC rfl (hL 20 (by decide) (by decide)) rfl 27 (by decide) rfl rfl (hB _ mw_3_71) dX7_hear_38 ?_
        refine lv_iload_n hx hb dX7_hear_41 rfl (lv_at hl 1 rfl) ?_
        obtain ⟨w42, hV⟩ : vp_in x1 3 ∧ ((vf_n32 (FP.fmul (gF M4 34 x1.toNatClampNeg) 1063675494)) ∧ (vp_in x1 3 ∧ (vc_X7_hear_n6 (vc_X7_hear_B2 n) x1 (wF M4 34 x1.toNatClampNeg (FP.fmul (gF M4 34 x1.toNatClampNeg) 1063675494))))) := hV
        refine q_fald hx hb hK hC rfl (hL 34 (by decide) (by decide)) rfl w42 rfl dX7_hear_42 ?_
        refine lv_ldcf (v := 1063675494) hx hb hown (hB _ mw_4_20) dX7_hear_43 ?_
        obtain ⟨w45, hV⟩ : (vf_n32 (FP.fmul (gF M4 34 x1.toNatClampNeg) 1063675494)) ∧ (vp_in x1 3 ∧ (vc_X7_hear_n6 (vc_X7_hear_B2 n) x1 (wF M4 34 x1.toNatClampNeg (FP.fmul (gF M4 34 x1.toNatClampNeg) 1063675494)))) := hV
        refine lv_fmul hx hb dX7_hear_45 w45 ?_
        obtain ⟨w46, hV⟩ : vp_in x1 3 ∧ (vc_X7_hear_n6 (vc_X7_hear_B2 n) x1 (wF M4 34 x1.toNatClampNeg (FP.fmul (gF M4 34 x1.toNatClampNeg) 1063675494))) := hV
        refine q_fast hx hb hK hC rfl (hL 34 (by decide) (by decide)) rfl w46 rfl dX7_hear_46 (fun H locs hC => ?_)
        obtain ⟨M5, eM5⟩ : ∃ z : Mem, z = wF M4 34 x1.toNatClampNeg (FP.fmul (gF M4 34 x1.toNatClampNeg) 1063675494) := ⟨_, rfl⟩
        rw [← eM5] at hC
        have hT : sp_X7_hear M = sp_X7_hear_n6 (sp_X7_hear_B2 n) x1 M5 := by rw [eM5]; exact hT
        have hV : vc_X7_hear_n6 (vc_X7_hear_B2 n) x1 M5 := by rw [eM5]; exact hV
        obtain ⟨x6, ex6⟩ : ∃ z : Int32, z = x1 + 1 := ⟨_, rfl⟩
        have hT : sp_X7_hear M = sp_X7_hear_n5 (sp_X7_hear_B2 n) M5 x6 := by rw [ex6]; exact hT
        have hV : vc_X7_hear_n5 (vc_X7_hear_B2 n) M5 x6 := by rw [ex6]; exact hV
        refine lv_iinc (v := x6) (lv' := [(1, .int x6), (0, .ref (ad 20))]) hx hb dX7_hear_47 hl (k := 1) rfl (by rw [ex6]; rfl) (by decide) rfl (fun ls hl => ?_)
        refine lv_goto (tgt := 2) hx hb dX7_hear_50 (by decide) ?_
        exact ih x6 M5 _ _ _  hT hV hC (lv_sub hl [1, 0] rfl)
  have hT : sp_X7_hear M = sp_X7_hear_B2 4 0 M := rfl
  have hV : vc_X7_hear_B2 4 0 M := hV
  refine lv_iconst (v := 0) hx hb dX7_hear_0 (by decide) ?_
  refine lv_istore_n (lv' := [(1, .int 0), (0, .ref (ad 20))]) hx hb dX7_hear_1 rfl hl (by decide) rfl (fun ls hl => ?_)
  exact J2 4 0 M _ _ _  hT hV hC (lv_sub hl [1, 0] rfl)
