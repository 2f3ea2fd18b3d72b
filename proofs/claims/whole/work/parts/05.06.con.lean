set_option maxHeartbeats 4000000 in
set_option maxRecDepth 100000 in
theorem c_X6_cell (l : Launch) (D : va_G) (cy ad : Nat → Nat) (L : List Nat) (sz : Nat) (hL : lr 0 14 L) (M : Mem) (a1 : Int32) (a2 : Int32) (hV : vc_X6_cell M a1 a2) : Met l yX6_cell (Cond.code yX6_cell cX6_cell 3 (some .int) :: BG) ({ frames := 1, cells := 0, slots := 0, locals := 22 }) (va_Pc [.ref (ad 0), .int a1, .int a2] (PW D cy ad L M sz)) (va_Qi (fun r N => r = sp_X6_cell M a1 a2 ∧ N = M) (OW D cy ad L sz) (fA ad L sz)) 0 0 (fA ad L sz) := by
  refine q_start (by decide) (Nat.le_of_ble_eq_true rfl) (fun p e s m below meth c H locs ls hsz hx hb hr hlocks hml hown hB hK hE hC hl => ?_)
  subst hsz
  have hown : s.vm.findClass "MazeBoard" = some m.cls := hown
  have hl : lv_has ls 3 [(0, .ref (ad 0)), (1, .int a1), (2, .int a2)] := hl
  have hT : sp_X6_cell M a1 a2 = sp_X2_whatIs M a1 a2 := rfl
  have hV : vc_X2_whatIs M a1 a2 := hV
  refine lv_aload_n hx hb dX6_cell_0 rfl (lv_at hl 0 rfl) ?_
  refine q_getr (T := TX6) hx hb hB uw_X6 hown hK hC rfl (hL 0 (by decide) (by decide)) rfl 0 (by decide) rfl rfl (hB _ mw_1_219) dX6_cell_1 ?_
  refine q_getr (T := TX1) hx hb hB uw_X1 hown hK hC rfl (hL 1 (by decide) (by decide)) rfl 0 (by decide) rfl rfl (hB _ mw_1_128) dX6_cell_4 ?_
  refine lv_iload_n hx hb dX6_cell_7 rfl (lv_at hl 1 rfl) ?_
  refine lv_iload_n hx hb dX6_cell_8 rfl (lv_at hl 2 rfl) ?_
  have v9 : vc_X2_whatIs M a1 a2 := hV
  refine q_Ci (q_V (own := "MazeBoard") (y := yX2_whatIs) (As := [.int a1, .int a2]) (rest := []) ⟨hx, hb, hml, hown, hB⟩ hK hE hC (c_X2_whatIs l D cy ad L H.size (hL.sub (by decide) (by decide)) M a1 a2 v9) rfl (hL 2 (by decide) (by decide)) rfl mw_2_218 mw_2_53 mw_2_54 mw_1_3 mw_2_55 rfl yd_X2_whatIs ⟨rfl, rfl⟩ ⟨Nat.le_of_ble_eq_true rfl, Nat.le_of_ble_eq_true rfl⟩ rfl hl.1 rfl (Nat.le_of_ble_eq_true rfl) dX6_cell_9 ⟨Nat.le_refl _, Nat.le_refl _⟩) hC (fun r N_ H locs hp hC => ?_)
  obtain ⟨hr_, hM_⟩ := hp
  subst hr_
  rw [hM_] at hC
  exact q_reti hx hb hr hlocks hC ⟨hT.symm, rfl⟩ dX6_cell_12
set_option maxHeartbeats 4000000 in
set_option maxRecDepth 100000 in
theorem c_X6_point (l : Launch) (D : va_G) (cy ad : Nat → Nat) (L : List Nat) (sz : Nat) (hL : lr 0 14 L) (M : Mem) (a1 : Int32) (a2 : Int32) (hV : vc_X6_point M a1 a2) : Met l yX6_point (Cond.code yX6_point cX6_point 4 (some .int) :: BG) ({ frames := 3, cells := 0, slots := 0, locals := 73 }) (va_Pc [.ref (ad 0), .int a1, .int a2] (PW D cy ad L M sz)) (va_Qi (fun r N => r = sp_X6_point M a1 a2 ∧ N = M) (OW D cy ad L sz) (fA ad L sz)) 0 0 (fA ad L sz) := by
  refine q_start (by decide) (Nat.le_of_ble_eq_true rfl) (fun p e s m below meth c H locs ls hsz hx hb hr hlocks hml hown hB hK hE hC hl => ?_)
  subst hsz
  have hown : s.vm.findClass "MazeBoard" = some m.cls := hown
  have hl : lv_has ls 4 [(0, .ref (ad 0)), (1, .int a1), (2, .int a2)] := hl
  have J81 : ∀  (H : Heap) (locs : List Loc) (ls : Array Slot) (hT : sp_X6_point M a1 a2 = sp_X6_point_B81 M a1 a2) (hV : vc_X6_point_B81 M a1 a2) (hC : Cx D cy ad R0 L (fA ad L s.heap.size) s M H locs) (hl : lv_has ls 4 [(0, .ref (ad 0)), (1, .int a1), (2, .int a2)]), W p l e ({ frames := 3, cells := 0, slots := 0, locals := 73 }) s m ([.ref (ad 0), .int a1, .int a2] : List Value).toArray below meth c H locs 0 0 (MQ below (va_Qi (fun r N => r = sp_X6_point M a1 a2 ∧ N = M) (OW D cy ad L s.heap.size) (fA ad L s.heap.size)) ([.ref (ad 0), .int a1, .int a2] : List Value).toArray s 0 0 (fA ad L s.heap.size)) (F0 m 81 ls []) := by
    intro  H locs ls  hT hV hC hl
    have hT : sp_X6_point M a1 a2 = sp_X3_tileColour M a1 a2 (gI M 0 5) := hT
    have hV : (vc_X3_tileColour M a1 a2 (gI M 0 5)) := hV
    refine lv_aload_n hx hb dX6_point_81 rfl (lv_at hl 0 rfl) ?_
    refine q_getr (T := TX6) hx hb hB uw_X6 hown hK hC rfl (hL 0 (by decide) (by decide)) rfl 0 (by decide) rfl rfl (hB _ mw_1_219) dX6_point_82 ?_
    refine q_getr (T := TX1) hx hb hB uw_X1 hown hK hC rfl (hL 1 (by decide) (by decide)) rfl 0 (by decide) rfl rfl (hB _ mw_1_128) dX6_point_85 ?_
    refine lv_iload_n hx hb dX6_point_88 rfl (lv_at hl 1 rfl) ?_
    refine lv_iload_n hx hb dX6_point_89 rfl (lv_at hl 2 rfl) ?_
    refine lv_aload_n hx hb dX6_point_90 rfl (lv_at hl 0 rfl) ?_
    refine q_geti (T := TX6) hx hb hB uw_X6 hown hK hC rfl (hL 0 (by decide) (by decide)) rfl 5 (by decide) rfl (hB _ mw_1_224) dX6_point_91 ?_
    have v94 : vc_X3_tileColour M a1 a2 (gI M 0 5) := hV
    refine q_Ci (q_S (own := "MazeBoard") (y := yX3_tileColour) (As := [.ref (ad 2), .int a1, .int a2, .int (gI M 0 5)]) (rest := []) ⟨hx, hb, hml, hown, hB⟩ hK hE hC (c_X3_tileColour l D cy ad L H.size (hL.sub (by decide) (by decide)) M a1 a2 (gI M 0 5) v94) mw_3_1 mw_3_2 mw_1_9 mw_3_3 yd_X3_tileColour ⟨rfl, rfl⟩ ⟨Nat.le_of_ble_eq_true rfl, Nat.le_of_ble_eq_true rfl⟩ rfl hl.1 rfl (Nat.le_of_ble_eq_true rfl) dX6_point_94 ⟨Nat.le_refl _, Nat.le_refl _⟩) hC (fun r N_ H locs hp hC => ?_)
    obtain ⟨hr_, hM_⟩ := hp
    subst hr_
    rw [hM_] at hC
    exact q_reti hx hb hr hlocks hC ⟨hT.symm, rfl⟩ dX6_point_97
  have J34 : ∀ (n : Nat) (x1 : Int32) (H : Heap) (locs : List Loc) (ls : Array Slot) (hT : sp_X6_point M a1 a2 = sp_X6_point_B34 n M a1 a2 x1) (hV : vc_X6_point_B34 n M a1 a2 x1) (hC : Cx D cy ad R0 L (fA ad L s.heap.size) s M H locs) (hl : lv_has ls 4 [(0, .ref (ad 0)), (1, .int a1), (2, .int a2), (3, .int x1)]), W p l e ({ frames := 3, cells := 0, slots := 0, locals := 73 }) s m ([.ref (ad 0), .int a1, .int a2] : List Value).toArray below meth c H locs 0 0 (MQ below (va_Qi (fun r N => r = sp_X6_point M a1 a2 ∧ N = M) (OW D cy ad L s.heap.size) (fA ad L s.heap.size)) ([.ref (ad 0), .int a1, .int a2] : List Value).toArray s 0 0 (fA ad L s.heap.size)) (F0 m 34 ls []) := by
    intro n
    induction n with
    | zero => intro x1 H locs ls  hT hV; exact hV.elim
    | succ n ih =>
      intro x1 H locs ls  hT hV hC hl
      have hT : sp_X6_point M a1 a2 = if 5 ≤ x1 then (sp_X6_point_B81 M a1 a2) else (if (sp_X3_covers M (5 + x1.toNatClampNeg) x1 a1 a2 (gI M 0 5)) = 0 then (sp_X6_point_n1 (sp_X6_point_B34 n) M a1 a2 (x1 + 1)) else (sp_X3_spriteColour M (5 + x1.toNatClampNeg) x1)) := hT
      have hV : if 5 ≤ x1 then vc_X6_point_B81 M a1 a2 else (vp_in x1 5 ∧ ((vc_X3_covers M (5 + x1.toNatClampNeg) x1 a1 a2 (gI M 0 5)) ∧ (if (sp_X3_covers M (5 + x1.toNatClampNeg) x1 a1 a2 (gI M 0 5)) = 0 then (vc_X6_point_n1 (vc_X6_point_B34 n) M a1 a2 (x1 + 1)) else vp_in x1 5))) := hV
      refine lv_iload_n hx hb dX6_point_34 rfl (lv_at hl 3 rfl) ?_
      refine lv_iconst (v := 5) hx hb dX6_point_35 (by decide) ?_
      refine lv_icmp_ge (tgt := 81) hx hb dX6_point_36 (by decide) (fun c36 => ?_) (fun c36 => ?_)
      · have hT : sp_X6_point M a1 a2 = sp_X6_point_B81 M a1 a2 := hT.trans (if_pos c36)
        have hV : vc_X6_point_B81 M a1 a2 := iteT hV c36
        exact J81  _ _ _  hT hV hC (lv_sub hl [0, 1, 2] rfl)
      · have hT : sp_X6_point M a1 a2 = if (sp_X3_covers M (5 + x1.toNatClampNeg) x1 a1 a2 (gI M 0 5)) = 0 then (sp_X6_point_n1 (sp_X6_point_B34 n) M a1 a2 (x1 + 1)) else (sp_X3_spriteColour M (5 + x1.toNatClampNeg) x1) := hT.trans (if_neg c36)
        have hV : vp_in x1 5 ∧ ((vc_X3_covers M (5 + x1.toNatClampNeg) x1 a1 a2 (gI M 0 5)) ∧ (if (sp_X3_covers M (5 + x1.toNatClampNeg) x1 a1 a2 (gI M 0 5)) = 0 then (vc_X6_point_n1 (vc_X6_point_B34 n) M a1 a2 (x1 + 1)) else vp_in x1 5)) := iteF hV c36
        refine lv_aload_n hx hb dX6_point_39 rfl (lv_at hl 0 rfl) ?_
        refine q_getr (T := TX6) hx hb hB uw_X6 hown hK hC rfl (hL 0 (by decide) (by decide)) rfl 0 (by decide) rfl rfl (hB _ mw_1_219) dX6_point_40 ?_
        refine q_getr (T := TX1) hx hb hB uw_X1 hown hK hC rfl (hL 1 (by decide) (by decide)) rfl 1 (by decide) rfl rfl (hB _ mw_1_130) dX6_point_43 ?_
        refine lv_iload_n hx hb dX6_point_46 rfl (lv_at hl 3 rfl) ?_
        obtain ⟨w47, hV⟩ : vp_in x1 5 ∧ ((vc_X3_covers M (5 + x1.toNatClampNeg) x1 a1 a2 (gI M 0 5)) ∧ (if (sp_X3_covers M (5 + x1.toNatClampNeg) x1 a1 a2 (gI M 0 5)) = 0 then (vc_X6_point_n1 (vc_X6_point_B34 n) M a1 a2 (x1 + 1)) else vp_in x1 5)) := hV
        refine q_aald hx hb hK hC rfl (hL 4 (by decide) (by decide)) rfl w47 rfl dX6_point_47 ?_
        refine lv_iload_n hx hb dX6_point_48 rfl (lv_at hl 3 rfl) ?_
        refine lv_iload_n hx hb dX6_point_49 rfl (lv_at hl 1 rfl) ?_
        refine lv_iload_n hx hb dX6_point_50 rfl (lv_at hl 2 rfl) ?_
        refine lv_aload_n hx hb dX6_point_51 rfl (lv_at hl 0 rfl) ?_
        refine q_geti (T := TX6) hx hb hB uw_X6 hown hK hC rfl (hL 0 (by decide) (by decide)) rfl 5 (by decide) rfl (hB _ mw_1_224) dX6_point_52 ?_
        obtain ⟨v55, hV⟩ : (vc_X3_covers M (5 + x1.toNatClampNeg) x1 a1 a2 (gI M 0 5)) ∧ (if (sp_X3_covers M (5 + x1.toNatClampNeg) x1 a1 a2 (gI M 0 5)) = 0 then (vc_X6_point_n1 (vc_X6_point_B34 n) M a1 a2 (x1 + 1)) else vp_in x1 5) := hV
        refine q_Ci (q_S (own := "MazeBoard") (y := yX3_covers) (As := [.ref (ad (5 + x1.toNatClampNeg)), .int x1, .int a1, .int a2, .int (gI M 0 5)]) (rest := []) ⟨hx, hb, hml, hown, hB⟩ hK hE hC (c_X3_covers l D cy ad L H.size (hL.sub (by decide) (by decide)) M (5 + x1.toNatClampNeg) (isA.of w47) x1 a1 a2 (gI M 0 5) v55) mw_2_223 mw_2_224 mw_1_9 mw_2_225 yd_X3_covers ⟨rfl, rfl⟩ ⟨Nat.le_of_ble_eq_true rfl, Nat.le_of_ble_eq_true rfl⟩ rfl hl.1 rfl (Nat.le_of_ble_eq_true rfl) dX6_point_55 ⟨Nat.le_refl _, Nat.le_refl _⟩) hC (fun r N_ H locs hp hC => ?_)
        obtain ⟨hr_, hM_⟩ := hp
        subst hr_
        rw [hM_] at hC
        refine lv_if_eq (tgt := 75) hx hb dX6_point_58 (by decide) (fun c58 => ?_) (fun c58 => ?_)
        · have hT : sp_X6_point M a1 a2 = sp_X6_point_n1 (sp_X6_point_B34 n) M a1 a2 (x1 + 1) := hT.trans (if_pos c58)
          have hV : vc_X6_point_n1 (vc_X6_point_B34 n) M a1 a2 (x1 + 1) := iteT hV c58
          obtain ⟨x2, ex2⟩ : ∃ z : Int32, z = x1 + 1 := ⟨_, rfl⟩
          have hT : sp_X6_point M a1 a2 = sp_X6_point_n1 (sp_X6_point_B34 n) M a1 a2 x2 := by rw [ex2]; exact hT
          have hV : vc_X6_point_n1 (vc_X6_point_B34 n) M a1 a2 x2 := by rw [ex2]; exact hV
          refine lv_iinc (v := x2) (lv' := [(3, .int x2), (0, .ref (ad 0)), (1, .int a1), (2, .int a2)]) hx hb dX6_point_75 hl (k := 3) rfl (by rw [ex2]; rfl) (by decide) rfl (fun ls hl => ?_)
          refine lv_goto (tgt := 34) hx hb dX6_point_78 (by decide) ?_
          exact ih x2 _ _ _  hT hV hC (lv_sub hl [1, 2, 3, 0] rfl)
        · have hT : sp_X6_point M a1 a2 = sp_X3_spriteColour M (5 + x1.toNatClampNeg) x1 := hT.trans (if_neg c58)
          have hV : vp_in x1 5 := iteF hV c58
          refine lv_aload_n hx hb dX6_point_61 rfl (lv_at hl 0 rfl) ?_
          refine q_getr (T := TX6) hx hb hB uw_X6 hown hK hC rfl (hL 0 (by decide) (by decide)) rfl 0 (by decide) rfl rfl (hB _ mw_1_219) dX6_point_62 ?_
          refine q_getr (T := TX1) hx hb hB uw_X1 hown hK hC rfl (hL 1 (by decide) (by decide)) rfl 1 (by decide) rfl rfl (hB _ mw_1_130) dX6_point_65 ?_
          refine lv_iload_n hx hb dX6_point_68 rfl (lv_at hl 3 rfl) ?_
          have w69 : vp_in x1 5 := hV
          refine q_aald hx hb hK hC rfl (hL 4 (by decide) (by decide)) rfl w69 rfl dX6_point_69 ?_
          refine lv_iload_n hx hb dX6_point_70 rfl (lv_at hl 3 rfl) ?_
          refine q_Ci (q_S (own := "MazeBoard") (y := yX3_spriteColour) (As := [.ref (ad (5 + x1.toNatClampNeg)), .int x1]) (rest := []) ⟨hx, hb, hml, hown, hB⟩ hK hE hC (c_X3_spriteColour l D cy ad L H.size (hL.sub (by decide) (by decide)) M (5 + x1.toNatClampNeg) (isA.of w69) x1) mw_2_238 mw_2_239 mw_1_9 mw_3_0 yd_X3_spriteColour ⟨rfl, rfl⟩ ⟨Nat.le_of_ble_eq_true rfl, Nat.le_of_ble_eq_true rfl⟩ rfl hl.1 rfl (Nat.le_of_ble_eq_true rfl) dX6_point_71 ⟨Nat.le_refl _, Nat.le_refl _⟩) hC (fun r N_ H locs hp hC => ?_)
          obtain ⟨hr_, hM_⟩ := hp
          subst hr_
          rw [hM_] at hC
          exact q_reti hx hb hr hlocks hC ⟨hT.symm, rfl⟩ dX6_point_74
  have J20 : ∀  (H : Heap) (locs : List Loc) (ls : Array Slot) (hT : sp_X6_point M a1 a2 = sp_X6_point_B20 ) (hC : Cx D cy ad R0 L (fA ad L s.heap.size) s M H locs) (hl : lv_has ls 4 []), W p l e ({ frames := 3, cells := 0, slots := 0, locals := 73 }) s m ([.ref (ad 0), .int a1, .int a2] : List Value).toArray below meth c H locs 0 0 (MQ below (va_Qi (fun r N => r = sp_X6_point M a1 a2 ∧ N = M) (OW D cy ad L s.heap.size) (fA ad L s.heap.size)) ([.ref (ad 0), .int a1, .int a2] : List Value).toArray s 0 0 (fA ad L s.heap.size)) (F0 m 20 ls []) := by
    intro  H locs ls  hT hC hl
    have hT : sp_X6_point M a1 a2 = (-1) := hT
    refine lv_iconst (v := (-1)) hx hb dX6_point_20 (by decide) ?_
    exact q_reti hx hb hr hlocks hC ⟨hT.symm, rfl⟩ dX6_point_21
  have hT : sp_X6_point M a1 a2 = if a1 < 0 then sp_X6_point_B20 else (if 52 ≤ a1 then sp_X6_point_B20 else (if a2 < 0 then sp_X6_point_B20 else (if a2 < 36 then (if (gI M 1 3) = 0 then (sp_X6_point_B81 M a1 a2) else (sp_X6_point_B34 6 M a1 a2 0)) else sp_X6_point_B20))) := rfl
  have hV : if a1 < 0 then True else (if 52 ≤ a1 then True else (if a2 < 0 then True else (if a2 < 36 then (if (gI M 1 3) = 0 then vc_X6_point_B81 M a1 a2 else vc_X6_point_B34 6 M a1 a2 0) else True))) := hV
  refine lv_iload_n hx hb dX6_point_0 rfl (lv_at hl 1 rfl) ?_
  refine lv_if_lt (tgt := 20) hx hb dX6_point_1 (by decide) (fun c1 => ?_) (fun c1 => ?_)
  · have hT : sp_X6_point M a1 a2 = sp_X6_point_B20 := hT.trans (if_pos c1)
    exact J20  _ _ _  hT hC (lv_sub hl [] rfl)
  · have hT : sp_X6_point M a1 a2 = if 52 ≤ a1 then sp_X6_point_B20 else (if a2 < 0 then sp_X6_point_B20 else (if a2 < 36 then (if (gI M 1 3) = 0 then (sp_X6_point_B81 M a1 a2) else (sp_X6_point_B34 6 M a1 a2 0)) else sp_X6_point_B20)) := hT.trans (if_neg c1)
    have hV : if 52 ≤ a1 then True else (if a2 < 0 then True else (if a2 < 36 then (if (gI M 1 3) = 0 then vc_X6_point_B81 M a1 a2 else vc_X6_point_B34 6 M a1 a2 0) else True)) := iteF hV c1
    refine lv_iload_n hx hb dX6_point_4 rfl (lv_at hl 1 rfl) ?_
    refine lv_bipush (v := 52) hx hb dX6_point_5 (by decide) ?_
    refine lv_icmp_ge (tgt := 20) hx hb dX6_point_7 (by decide) (fun c7 => ?_) (fun c7 => ?_)
    · have hT : sp_X6_point M a1 a2 = sp_X6_point_B20 := hT.trans (if_pos c7)
      exact J20  _ _ _  hT hC (lv_sub hl [] rfl)
    · have hT : sp_X6_point M a1 a2 = if a2 < 0 then sp_X6_point_B20 else (if a2 < 36 then (if (gI M 1 3) = 0 then (sp_X6_point_B81 M a1 a2) else (sp_X6_point_B34 6 M a1 a2 0)) else sp_X6_point_B20) := hT.trans (if_neg c7)
      have hV : if a2 < 0 then True else (if a2 < 36 then (if (gI M 1 3) = 0 then vc_X6_point_B81 M a1 a2 else vc_X6_point_B34 6 M a1 a2 0) else True) := iteF hV c7
      refine lv_iload_n hx hb dX6_point_10 rfl (lv_at hl 2 rfl) ?_
      refine lv_if_lt (tgt := 20) hx hb dX6_point_11 (by decide) (fun c11 => ?_) (fun c11 => ?_)
      · have hT : sp_X6_point M a1 a2 = sp_X6_point_B20 := hT.trans (if_pos c11)
        exact J20  _ _ _  hT hC (lv_sub hl [] rfl)
      · have hT : sp_X6_point M a1 a2 = if a2 < 36 then (if (gI M 1 3) = 0 then (sp_X6_point_B81 M a1 a2) else (sp_X6_point_B34 6 M a1 a2 0)) else sp_X6_point_B20 := hT.trans (if_neg c11)
        have hV : if a2 < 36 then (if (gI M 1 3) = 0 then vc_X6_point_B81 M a1 a2 else vc_X6_point_B34 6 M a1 a2 0) else True := iteF hV c11
        refine lv_iload_n hx hb dX6_point_14 rfl (lv_at hl 2 rfl) ?_
        refine lv_bipush (v := 36) hx hb dX6_point_15 (by decide) ?_
        refine lv_icmp_lt (tgt := 22) hx hb dX6_point_17 (by decide) (fun c17 => ?_) (fun c17 => ?_)
        · have hT : sp_X6_point M a1 a2 = if (gI M 1 3) = 0 then (sp_X6_point_B81 M a1 a2) else (sp_X6_point_B34 6 M a1 a2 0) := hT.trans (if_pos c17)
          have hV : if (gI M 1 3) = 0 then vc_X6_point_B81 M a1 a2 else vc_X6_point_B34 6 M a1 a2 0 := iteT hV c17
          refine lv_aload_n hx hb dX6_point_22 rfl (lv_at hl 0 rfl) ?_
          refine q_getr (T := TX6) hx hb hB uw_X6 hown hK hC rfl (hL 0 (by decide) (by decide)) rfl 0 (by decide) rfl rfl (hB _ mw_1_219) dX6_point_23 ?_
          refine q_geti (T := TX1) hx hb hB uw_X1 hown hK hC rfl (hL 1 (by decide) (by decide)) rfl 3 (by decide) rfl (hB _ mw_1_133) dX6_point_26 ?_
          refine lv_if_eq (tgt := 81) hx hb dX6_point_29 (by decide) (fun c29 => ?_) (fun c29 => ?_)
          · have hT : sp_X6_point M a1 a2 = sp_X6_point_B81 M a1 a2 := hT.trans (if_pos c29)
            have hV : vc_X6_point_B81 M a1 a2 := iteT hV c29
            exact J81  _ _ _  hT hV hC (lv_sub hl [0, 1, 2] rfl)
          · have hT : sp_X6_point M a1 a2 = sp_X6_point_B34 6 M a1 a2 0 := hT.trans (if_neg c29)
            have hV : vc_X6_point_B34 6 M a1 a2 0 := iteF hV c29
            refine lv_iconst (v := 0) hx hb dX6_point_32 (by decide) ?_
            refine lv_istore_n (lv' := [(3, .int 0), (0, .ref (ad 0)), (1, .int a1), (2, .int a2)]) hx hb dX6_point_33 rfl hl (by decide) rfl (fun ls hl => ?_)
            exact J34 6 0 _ _ _  hT hV hC (lv_sub hl [1, 2, 3, 0] rfl)
        · have hT : sp_X6_point M a1 a2 = sp_X6_point_B20 := hT.trans (if_neg c17)
          exact J20  _ _ _  hT hC (lv_sub hl [] rfl)
set_option maxHeartbeats 4000000 in
set_option maxRecDepth 100000 in
theorem c_X6_volume (l : Launch) (D : va_G) (cy ad : Nat → Nat) (L : List Nat) (sz : Nat) (hL : lr 0 14 L) (M : Mem) (a1 : Int32) (hV : vc_X6_volume M a1) : Met l yX6_volume (Cond.code yX6_volume cX6_volume 2 (some .float) :: BG) ({ frames := 0, cells := 0, slots := 0, locals := 0 }) (va_Pc [.ref (ad 0), .int a1] (PW D cy ad L M sz)) (va_Qf (fun r N => r = sp_X6_volume M a1 ∧ N = M) (OW D cy ad L sz) (fA ad L sz)) 0 0 (fA ad L sz) := by
  refine q_start (by decide) (Nat.le_of_ble_eq_true rfl) (fun p e s m below meth c H locs ls hsz hx hb hr hlocks hml hown hB hK hE hC hl => ?_)
  subst hsz
  have hown : s.vm.findClass "MazeBoard" = some m.cls := hown
  have hl : lv_has ls 2 [(0, .ref (ad 0)), (1, .int a1)] := hl
  have J25 : ∀ (f1 : UInt32) (H : Heap) (locs : List Loc) (ls : Array Slot) (hT : sp_X6_volume M a1 = sp_X6_volume_B25 f1) (hC : Cx D cy ad R0 L (fA ad L s.heap.size) s M H locs) (hl : lv_has ls 2 []), W p l e ({ frames := 0, cells := 0, slots := 0, locals := 0 }) s m ([.ref (ad 0), .int a1] : List Value).toArray below meth c H locs 0 0 (MQ below (va_Qf (fun r N => r = sp_X6_volume M a1 ∧ N = M) (OW D cy ad L s.heap.size) (fA ad L s.heap.size)) ([.ref (ad 0), .int a1] : List Value).toArray s 0 0 (fA ad L s.heap.size)) (F0 m 25 ls [.float f1]) := by
    intro f1 H locs ls  hT hC hl
    have hT : sp_X6_volume M a1 = f1 := hT
    exact q_retf hx hb hr hlocks hC ⟨hT.symm, rfl⟩ dX6_volume_25
  have J9 : ∀  (H : Heap) (locs : List Loc) (ls : Array Slot) (hT : sp_X6_volume M a1 = sp_X6_volume_B9 ) (hC : Cx D cy ad R0 L (fA ad L s.heap.size) s M H locs) (hl : lv_has ls 2 []), W p l e ({ frames := 0, cells := 0, slots := 0, locals := 0 }) s m ([.ref (ad 0), .int a1] : List Value).toArray below meth c H locs 0 0 (MQ below (va_Qf (fun r N => r = sp_X6_volume M a1 ∧ N = M) (OW D cy ad L s.heap.size) (fA ad L s.heap.size)) ([.ref (ad 0), .int a1] : List Value).toArray s 0 0 (fA ad L s.heap.size)) (F0 m 9 ls []) := by
    intro  H locs ls  hT hC hl
    have hT : sp_X6_volume M a1 = sp_X6_volume_B25 FP.fconst0 := hT
    refine lv_fconst0 hx hb dX6_volume_9 ?_
    refine lv_goto (tgt := 25) hx hb dX6_volume_10 (by decide) ?_
    exact J25 FP.fconst0 _ _ _  hT hC (lv_sub hl [] rfl)
  have hT : sp_X6_volume M a1 = if a1 < 0 then sp_X6_volume_B9 else (if a1 < 3 then (sp_X6_volume_B25 (gF M (12 + a1.toNatClampNeg) 2)) else sp_X6_volume_B9) := rfl
  have hV : if a1 < 0 then True else (if a1 < 3 then vp_in a1 3 else True) := hV
  refine lv_iload_n hx hb dX6_volume_0 rfl (lv_at hl 1 rfl) ?_
  refine lv_if_lt (tgt := 9) hx hb dX6_volume_1 (by decide) (fun c1 => ?_) (fun c1 => ?_)
  · have hT : sp_X6_volume M a1 = sp_X6_volume_B9 := hT.trans (if_pos c1)
    exact J9  _ _ _  hT hC (lv_sub hl [] rfl)
  · have hT : sp_X6_volume M a1 = if a1 < 3 then (sp_X6_volume_B25 (gF M (12 + a1.toNatClampNeg) 2)) else sp_X6_volume_B9 := hT.trans (if_neg c1)
    have hV : if a1 < 3 then vp_in a1 3 else True := iteF hV c1
    refine lv_iload_n hx hb dX6_volume_4 rfl (lv_at hl 1 rfl) ?_
    refine lv_iconst (v := 3) hx hb dX6_volume_5 (by decide) ?_
    refine lv_icmp_lt (tgt := 13) hx hb dX6_volume_6 (by decide) (fun c6 => ?_) (fun c6 => ?_)
    · have hT : sp_X6_volume M a1 = sp_X6_volume_B25 (gF M (12 + a1.toNatClampNeg) 2) := hT.trans (if_pos c6)
      have hV : vp_in a1 3 := iteT hV c6
      refine lv_aload_n hx hb dX6_volume_13 rfl (lv_at hl 0 rfl) ?_
      refine q_getr (T := TX6) hx hb hB uw_X6 hown hK hC rfl (hL 0 (by decide) (by decide)) rfl 1 (by decide) rfl rfl (hB _ mw_1_220) dX6_volume_14 ?_
      refine q_getr (T := TX4) hx hb hB uw_X4 hown hK hC rfl (hL 10 (by decide) (by decide)) rfl 0 (by decide) rfl rfl (hB _ mw_1_215) dX6_volume_17 ?_
      refine lv_iload_n hx hb dX6_volume_20 rfl (lv_at hl 1 rfl) ?_
      have w21 : vp_in a1 3 := hV
      refine q_aald hx hb hK hC rfl (hL 11 (by decide) (by decide)) rfl w21 rfl dX6_volume_21 ?_
      refine q_getf (T := TX5) hx hb hB uw_X5 hown hK hC (isV.sh (isV.of w21)) (hL _ (Nat.le_trans (by decide) ((isV.of w21)).1) (Nat.le_trans ((isV.of w21)).2 (by decide))) rfl 2 (by decide) rfl (hB _ mw_1_206) dX6_volume_22 ?_
      exact J25 (gF M (12 + a1.toNatClampNeg) 2) _ _ _  hT hC (lv_sub hl [] rfl)
    · have hT : sp_X6_volume M a1 = sp_X6_volume_B9 := hT.trans (if_neg c6)
      exact J9  _ _ _  hT hC (lv_sub hl [] rfl)
set_option maxHeartbeats 4000000 in
set_option maxRecDepth 100000 in
theorem c_X6_sound (l : Launch) (D : va_G) (cy ad : Nat → Nat) (L : List Nat) (sz : Nat) (hL : lr 0 14 L) (M : Mem)  (hV : vc_X6_sound M ) : Met l yX6_sound (Cond.code yX6_sound cX6_sound 3 (some .float) :: BG) ({ frames := 1, cells := 0, slots := 0, locals := 20 }) (va_Pc [.ref (ad 0)] (PW D cy ad L M sz)) (va_Qf (fun r N => r = sp_X6_sound M ∧ N = M) (OW D cy ad L sz) (fA ad L sz)) 0 0 (fA ad L sz) := by
  refine q_start (by decide) (Nat.le_of_ble_eq_true rfl) (fun p e s m below meth c H locs ls hsz hx hb hr hlocks hml hown hB hK hE hC hl => ?_)
  subst hsz
  have hown : s.vm.findClass "MazeBoard" = some m.cls := hown
  have hl : lv_has ls 3 [(0, .ref (ad 0))] := hl
  have J4 : ∀ (n : Nat) (f2 : UInt32) (x3 : Int32) (H : Heap) (locs : List Loc) (ls : Array Slot) (hT : sp_X6_sound M = sp_X6_sound_B4 n M f2 x3) (hV : vc_X6_sound_B4 n M f2 x3) (hC : Cx D cy ad R0 L (fA ad L s.heap.size) s M H locs) (hl : lv_has ls 3 [(0, .ref (ad 0)), (1, .float f2), (2, .int x3)]), W p l e ({ frames := 1, cells := 0, slots := 0, locals := 20 }) s m ([.ref (ad 0)] : List Value).toArray below meth c H locs 0 0 (MQ below (va_Qf (fun r N => r = sp_X6_sound M ∧ N = M) (OW D cy ad L s.heap.size) (fA ad L s.heap.size)) ([.ref (ad 0)] : List Value).toArray s 0 0 (fA ad L s.heap.size)) (F0 m 4 ls []) := by
    intro n
    induction n with
    | zero => intro f2 x3 H locs ls  hT hV; exact hV.elim
    | succ n ih =>
      intro f2 x3 H locs ls  hT hV hC hl
      have hT : sp_X6_sound M = if 3 ≤ x3 then f2 else (sp_X6_sound_n2 (sp_X6_sound_B4 n) M x3 (FP.fadd f2 (sp_X5_sample M (12 + x3.toNatClampNeg)))) := hT
      have hV : if 3 ≤ x3 then True else (vp_in x3 3 ∧ ((vc_X5_sample M (12 + x3.toNatClampNeg)) ∧ ((vf_n32 (FP.fadd f2 (sp_X5_sample M (12 + x3.toNatClampNeg)))) ∧ (vc_X6_sound_n2 (vc_X6_sound_B4 n) M x3 (FP.fadd f2 (sp_X5_sample M (12 + x3.toNatClampNeg))))))) := hV
      refine lv_iload_n hx hb dX6_sound_4 rfl (lv_at hl 2 rfl) ?_
      refine lv_iconst (v := 3) hx hb dX6_sound_5 (by decide) ?_
      refine lv_icmp_ge (tgt := 30) hx hb dX6_sound_6 (by decide) (fun c6 => ?_) (fun c6 => ?_)
      · have hT : sp_X6_sound M = f2 := hT.trans (if_pos c6)
        refine lv_fload_n hx hb dX6_sound_30 rfl (lv_at hl 1 rfl) ?_
        exact q_retf hx hb hr hlocks hC ⟨hT.symm, rfl⟩ dX6_sound_31
      · have hT : sp_X6_sound M = sp_X6_sound_n2 (sp_X6_sound_B4 n) M x3 (FP.fadd f2 (sp_X5_sample M (12 + x3.toNatClampNeg))) := hT.trans (if_neg c6)
        have hV : vp_in x3 3 ∧ ((vc_X5_sample M (12 + x3.toNatClampNeg)) ∧ ((vf_n32 (FP.fadd f2 (sp_X5_sample M (12 + x3.toNatClampNeg)))) ∧ (vc_X6_sound_n2 (vc_X6_sound_B4 n) M x3 (FP.fadd f2 (sp_X5_sample M (12 + x3.toNatClampNeg)))))) := iteF hV c6
        refine lv_fload_n hx hb dX6_sound_9 rfl (lv_at hl 1 rfl) ?_
        refine lv_aload_n hx hb dX6_sound_10 rfl (lv_at hl 0 rfl) ?_
        refine q_getr (T := TX6) hx hb hB uw_X6 hown hK hC rfl (hL 0 (by decide) (by decide)) rfl 1 (by decide) rfl rfl (hB _ mw_1_220) dX6_sound_11 ?_
        refine q_getr (T := TX4) hx hb hB uw_X4 hown hK hC rfl (hL 10 (by decide) (by decide)) rfl 0 (by decide) rfl rfl (hB _ mw_1_215) dX6_sound_14 ?_
        refine lv_iload_n hx hb dX6_sound_17 rfl (lv_at hl 2 rfl) ?_
        obtain ⟨w18, hV⟩ : vp_in x3 3 ∧ ((vc_X5_sample M (12 + x3.toNatClampNeg)) ∧ ((vf_n32 (FP.fadd f2 (sp_X5_sample M (12 + x3.toNatClampNeg)))) ∧ (vc_X6_sound_n2 (vc_X6_sound_B4 n) M x3 (FP.fadd f2 (sp_X5_sample M (12 + x3.toNatClampNeg)))))) := hV
        refine q_aald hx hb hK hC rfl (hL 11 (by decide) (by decide)) rfl w18 rfl dX6_sound_18 ?_
        obtain ⟨v19, hV⟩ : (vc_X5_sample M (12 + x3.toNatClampNeg)) ∧ ((vf_n32 (FP.fadd f2 (sp_X5_sample M (12 + x3.toNatClampNeg)))) ∧ (vc_X6_sound_n2 (vc_X6_sound_B4 n) M x3 (FP.fadd f2 (sp_X5_sample M (12 + x3.toNatClampNeg))))) := hV
        refine q_Cf (q_V (own := "MazeBoard") (y := yX5_sample) (As := []) (rest := [.float f2]) ⟨hx, hb, hml, hown, hB⟩ hK hE hC (c_X5_sample l D cy ad L H.size (hL.sub (by decide) (by decide)) M (12 + x3.toNatClampNeg) (isV.of w18) v19) (isV.sh (isV.of w18)) (hL _ (Nat.le_trans (by decide) ((isV.of w18)).1) (Nat.le_trans ((isV.of w18)).2 (by decide))) rfl mw_3_13 mw_3_14 mw_3_15 mw_1_6 mw_3_16 rfl yd_X5_sample ⟨rfl, rfl⟩ ⟨Nat.le_of_ble_eq_true rfl, Nat.le_of_ble_eq_true rfl⟩ rfl hl.1 rfl (Nat.le_of_ble_eq_true rfl) dX6_sound_19 ⟨Nat.le_refl _, Nat.le_refl _⟩) hC (fun r N_ H locs hp hC => ?_)
        obtain ⟨hr_, hM_⟩ := hp
        subst hr_
        rw [hM_] at hC
        obtain ⟨w22, hV⟩ : (vf_n32 (FP.fadd f2 (sp_X5_sample M (12 + x3.toNatClampNeg)))) ∧ (vc_X6_sound_n2 (vc_X6_sound_B4 n) M x3 (FP.fadd f2 (sp_X5_sample M (12 + x3.toNatClampNeg)))) := hV
        refine lv_fadd hx hb dX6_sound_22 w22 ?_
        refine lv_topf (fun f4 ef4 => ?_)
        have hT : sp_X6_sound M = sp_X6_sound_n2 (sp_X6_sound_B4 n) M x3 f4 := by rw [ef4]; exact hT
        have hV : vc_X6_sound_n2 (vc_X6_sound_B4 n) M x3 f4 := by rw [ef4]; exact hV
        refine lv_fstore_n (lv' := [(1, .float f4), (0, .ref (ad 0)), (2, .int x3)]) hx hb dX6_sound_23 rfl hl (by decide) rfl (fun ls hl => ?_)
        obtain ⟨x5, ex5⟩ : ∃ z : Int32, z = x3 + 1 := ⟨_, rfl⟩
        have hT : sp_X6_sound M = sp_X6_sound_n1 (sp_X6_sound_B4 n) M f4 x5 := by rw [ex5]; exact hT
        have hV : vc_X6_sound_n1 (vc_X6_sound_B4 n) M f4 x5 := by rw [ex5]; exact hV
        refine lv_iinc (v := x5) (lv' := [(2, .int x5), (1, .float f4), (0, .ref (ad 0))]) hx hb dX6_sound_24 hl (k := 2) rfl (by rw [ex5]; rfl) (by decide) rfl (fun ls hl => ?_)
        refine lv_goto (tgt := 4) hx hb dX6_sound_27 (by decide) ?_
        exact ih f4 x5 _ _ _  hT hV hC (lv_sub hl [2, 1, 0] rfl)
  have hT : sp_X6_sound M = sp_X6_sound_n3 M FP.fconst0 := rfl
  have hV : vc_X6_sound_n3 M FP.fconst0 := hV
  refine lv_fconst0 hx hb dX6_sound_0 ?_
  refine lv_topf (fun f1 ef1 => ?_)
  have hT : sp_X6_sound M = sp_X6_sound_n3 M f1 := by rw [ef1]; exact hT
  have hV : vc_X6_sound_n3 M f1 := by rw [ef1]; exact hV
  refine lv_fstore_n (lv' := [(1, .float f1), (0, .ref (ad 0))]) hx hb dX6_sound_1 rfl hl (by decide) rfl (fun ls hl => ?_)
  refine lv_iconst (v := 0) hx hb dX6_sound_2 (by decide) ?_
  refine lv_istore_n (lv' := [(2, .int 0), (1, .float f1), (0, .ref (ad 0))]) hx hb dX6_sound_3 rfl hl (by decide) rfl (fun ls hl => ?_)
  exact J4 4 f1 0 _ _ _  hT hV hC (lv_sub hl [2, 1, 0] rfl)
set_option maxHeartbeats 4000000 in
set_option maxRecDepth 100000 in
theorem c_X7_both (l : Launch) (D : va_G) (cy ad : Nat → Nat) (L : List Nat) (sz : Nat) (hL : lr 20 34 L) (M : Mem) (a1 : Int32) (a2 : Int32) (a3 : Int32) (a4 : Int32) (hV : vc_X7_both M a1 a2 a3 a4) : Met l yX7_both (Cond.code yX7_both cX7_both 6 (none) :: BG) ({ frames := 0, cells := 0, slots := 0, locals := 0 }) (va_Pc [.ref (ad 20), .int a1, .int a2, .int a3, .int a4] (PW D cy ad L M sz)) (va_Qv (fun N => N = sp_X7_both M a1 a2 a3 a4) (OW D cy ad L sz) (fA ad L sz)) 0 0 (fA ad L sz) := by
  refine q_start (by decide) (Nat.le_of_ble_eq_true rfl) (fun p e s m below meth c H locs ls hsz hx hb hr hlocks hml hown hB hK hE hC hl => ?_)
  subst hsz
  have hown : s.vm.findClass "MazeBoardModel" = some m.cls := hown
  have hl : lv_has ls 6 [(0, .ref (ad 20)), (1, .int a1), (2, .int a2), (3, .int a3), (4, .int a4)] := hl
  have J3 : ∀ (n : Nat) (x1 : Int32) (M2 : Mem) (H : Heap) (locs : List Loc) (ls : Array Slot) (hT : sp_X7_both M a1 a2 a3 a4 = sp_X7_both_B3 n a1 a2 a3 a4 x1 M2) (hV : vc_X7_both_B3 n a1 a2 a3 a4 x1 M2) (hC : Cx D cy ad R0 L (fA ad L s.heap.size) s M2 H locs) (hl : lv_has ls 6 [(0, .ref (ad 20)), (1, .int a1), (2, .int a2), (3, .int a3), (4, .int a4), (5, .int x1)]), W p l e ({ frames := 0, cells := 0, slots := 0, locals := 0 }) s m ([.ref (ad 20), .int a1, .int a2, .int a3, .int a4] : List Value).toArray below meth c H locs 0 0 (MQ below (va_Qv (fun N => N = sp_X7_both M a1 a2 a3 a4) (OW D cy ad L s.heap.size) (fA ad L s.heap.size)) ([.ref (ad 20), .int a1, .int a2, .int a3, .int a4] : List Value).toArray s 0 0 (fA ad L s.heap.size)) (F0 m 3 ls []) := by
    intro n
    induction n with
    | zero => intro x1 M2 H locs ls  hT hV; exact hV.elim
    | succ n ih =>
      intro x1 M2 H locs ls  hT hV hC hl
      have hT : sp_X7_both M a1 a2 a3 a4 = if (a2 + a3) ≤ x1 then M2 else (sp_X7_both_n3 (sp_X7_both_B3 n) a1 a2 a3 a4 x1 (wI M2 21 (((13 * a1) + x1).toNatClampNeg) a4)) := hT
      have hV : if (a2 + a3) ≤ x1 then True else ((vp_in ((13 * a1) + x1) 117) ∧ (vc_X7_both_n3 (vc_X7_both_B3 n) a1 a2 a3 a4 x1 (wI M2 21 (((13 * a1) + x1).toNatClampNeg) a4))) := hV
      refine lv_iload hx hb dX7_both_3 (lv_at hl 5 rfl) ?_
      refine lv_iload_n hx hb dX7_both_5 rfl (lv_at hl 2 rfl) ?_
      refine lv_iload_n hx hb dX7_both_6 rfl (lv_at hl 3 rfl) ?_
      refine lv_iadd hx hb dX7_both_7 ?_
      refine lv_icmp_ge (tgt := 48) hx hb dX7_both_8 (by decide) (fun c8 => ?_) (fun c8 => ?_)
      · have hT : sp_X7_both M a1 a2 a3 a4 = M2 := hT.trans (if_pos c8)
        exact q_retv hx hb hr hlocks hC hT.symm dX7_both_48
      · have hT : sp_X7_both M a1 a2 a3 a4 = sp_X7_both_n3 (sp_X7_both_B3 n) a1 a2 a3 a4 x1 (wI M2 21 (((13 * a1) + x1).toNatClampNeg) a4) := hT.trans (if_neg c8)
        have hV : (vp_in ((13 * a1) + x1) 117) ∧ (vc_X7_both_n3 (vc_X7_both_B3 n) a1 a2 a3 a4 x1 (wI M2 21 (((13 * a1) + x1).toNatClampNeg) a4)) := iteF hV c8
        refine lv_aload_n hx hb dX7_both_11 rfl (lv_at hl 0 rfl) ?_
        refine q_getr (T := TX7) hx hb hB uw_X7 hown hK hC rfl (hL 20 (by decide) (by decide)) rfl 0 (by decide) rfl rfl (hB _ mw_3_44) dX7_both_12 ?_
        refine lv_bipush (v := 13) hx hb dX7_both_15 (by decide) ?_
        refine lv_iload_n hx hb dX7_both_17 rfl (lv_at hl 1 rfl) ?_
        refine lv_imul hx hb dX7_both_18 ?_
        refine lv_iload hx hb dX7_both_19 (lv_at hl 5 rfl) ?_
        refine lv_iadd hx hb dX7_both_21 ?_
        refine lv_iload hx hb dX7_both_22 (lv_at hl 4 rfl) ?_
        obtain ⟨w24, hV⟩ : (vp_in ((13 * a1) + x1) 117) ∧ (vc_X7_both_n3 (vc_X7_both_B3 n) a1 a2 a3 a4 x1 (wI M2 21 (((13 * a1) + x1).toNatClampNeg) a4)) := hV
        refine q_iast hx hb hK hC rfl (hL 21 (by decide) (by decide)) rfl w24 rfl dX7_both_24 (fun H locs hC => ?_)
        obtain ⟨M3, eM3⟩ : ∃ z : Mem, z = wI M2 21 (((13 * a1) + x1).toNatClampNeg) a4 := ⟨_, rfl⟩
        rw [← eM3] at hC
        have hT : sp_X7_both M a1 a2 a3 a4 = sp_X7_both_n3 (sp_X7_both_B3 n) a1 a2 a3 a4 x1 M3 := by rw [eM3]; exact hT
        have hV : vc_X7_both_n3 (vc_X7_both_B3 n) a1 a2 a3 a4 x1 M3 := by rw [eM3]; exact hV
        refine lv_aload_n hx hb dX7_both_25 rfl (lv_at hl 0 rfl) ?_
        refine q_getr (T := TX7) hx hb hB uw_X7 hown hK hC rfl (hL 20 (by decide) (by decide)) rfl 0 (by decide) rfl rfl (hB _ mw_3_44) dX7_both_26 ?_
        refine lv_bipush (v := 13) hx hb dX7_both_29 (by decide) ?_
        refine lv_iload_n hx hb dX7_both_31 rfl (lv_at hl 1 rfl) ?_
        refine lv_imul hx hb dX7_both_32 ?_
        refine lv_bipush (v := 12) hx hb dX7_both_33 (by decide) ?_
        refine lv_iadd hx hb dX7_both_35 ?_
        refine lv_iload hx hb dX7_both_36 (lv_at hl 5 rfl) ?_
        refine lv_isub hx hb dX7_both_38 ?_
        refine lv_iload hx hb dX7_both_39 (lv_at hl 4 rfl) ?_
        obtain ⟨w41, hV⟩ : (vp_in (((13 * a1) + 12) - x1) 117) ∧ (vc_X7_both_n2 (vc_X7_both_B3 n) a1 a2 a3 a4 x1 (wI M3 21 ((((13 * a1) + 12) - x1).toNatClampNeg) a4)) := hV
        refine q_iast hx hb hK hC rfl (hL 21 (by decide) (by decide)) rfl w41 rfl dX7_both_41 (fun H locs hC => ?_)
        obtain ⟨M4, eM4⟩ : ∃ z : Mem, z = wI M3 21 ((((13 * a1) + 12) - x1).toNatClampNeg) a4 := ⟨_, rfl⟩
        rw [← eM4] at hC
        have hT : sp_X7_both M a1 a2 a3 a4 = sp_X7_both_n2 (sp_X7_both_B3 n) a1 a2 a3 a4 x1 M4 := by rw [eM4]; exact hT
        have hV : vc_X7_both_n2 (vc_X7_both_B3 n) a1 a2 a3 a4 x1 M4 := by rw [eM4]; exact hV
        obtain ⟨x5, ex5⟩ : ∃ z : Int32, z = x1 + 1 := ⟨_, rfl⟩
        have hT : sp_X7_both M a1 a2 a3 a4 = sp_X7_both_n1 (sp_X7_both_B3 n) a1 a2 a3 a4 M4 x5 := by rw [ex5]; exact hT
        have hV : vc_X7_both_n1 (vc_X7_both_B3 n) a1 a2 a3 a4 M4 x5 := by rw [ex5]; exact hV
        refine lv_iinc (v := x5) (lv' := [(5, .int x5), (0, .ref (ad 20)), (1, .int a1), (2, .int a2), (3, .int a3), (4, .int a4)]) hx hb dX7_both_42 hl (k := 5) rfl (by rw [ex5]; rfl) (by decide) rfl (fun ls hl => ?_)
        refine lv_goto (tgt := 3) hx hb dX7_both_45 (by decide) ?_
        exact ih x5 M4 _ _ _  hT hV hC (lv_sub hl [1, 2, 3, 4, 5, 0] rfl)
  have hT : sp_X7_both M a1 a2 a3 a4 = sp_X7_both_B3 8 a1 a2 a3 a4 a2 M := rfl
  have hV : vc_X7_both_B3 8 a1 a2 a3 a4 a2 M := hV
  refine lv_iload_n hx hb dX7_both_0 rfl (lv_at hl 2 rfl) ?_
  refine lv_istore (lv' := [(5, .int a2), (0, .ref (ad 20)), (1, .int a1), (2, .int a2), (3, .int a3), (4, .int a4)]) hx hb dX7_both_1 hl (by decide) rfl (fun ls hl => ?_)
  exact J3 8 a2 M _ _ _  hT hV hC (lv_sub hl [1, 2, 3, 4, 5, 0] rfl)
set_option maxHeartbeats 4000000 in
set_option maxRecDepth 100000 in
theorem c_X7_draw (l : Launch) (D : va_G) (cy ad : Nat → Nat) (L : List Nat) (sz : Nat) (hL : lr 20 34 L) (M : Mem)  (hV : vc_X7_draw M ) : Met l yX7_draw (Cond.code yX7_draw cX7_draw 2 (none) :: BG) ({ frames := 1, cells := 0, slots := 0, locals := 25 }) (va_Pc [.ref (ad 20)] (PW D cy ad L M sz)) (va_Qv (fun N => N = sp_X7_draw M) (OW D cy ad L sz) (fA ad L sz)) 0 0 (fA ad L sz) := by
  refine q_start (by decide) (Nat.le_of_ble_eq_true rfl) (fun p e s m below meth c H locs ls hsz hx hb hr hlocks hml hown hB hK hE hC hl => ?_)
  subst hsz
  have hown : s.vm.findClass "MazeBoardModel" = some m.cls := hown
  have hl : lv_has ls 2 [(0, .ref (ad 20))] := hl
  have J83 : ∀ (n : Nat) (x15 : Int32) (M16 : Mem) (H : Heap) (locs : List Loc) (ls : Array Slot) (hT : sp_X7_draw M = sp_X7_draw_B83 n x15 M16) (hV : vc_X7_draw_B83 n x15 M16) (hC : Cx D cy ad R0 L (fA ad L s.heap.size) s M16 H locs) (hl : lv_has ls 2 [(0, .ref (ad 20)), (1, .int x15)]), W p l e ({ frames := 1, cells := 0, slots := 0, locals := 25 }) s m ([.ref (ad 20)] : List Value).toArray below meth c H locs 0 0 (MQ below (va_Qv (fun N => N = sp_X7_draw M) (OW D cy ad L s.heap.size) (fA ad L s.heap.size)) ([.ref (ad 20)] : List Value).toArray s 0 0 (fA ad L s.heap.size)) (F0 m 83 ls []) := by
    intro n
    induction n with
    | zero => intro x15 M16 H locs ls  hT hV; exact hV.elim
    | succ n ih =>
      intro x15 M16 H locs ls  hT hV hC hl
      have hT : sp_X7_draw M = if 6 ≤ x15 then (sp_X7_draw_n3 (sp_X7_both M16 3 6 1 4)) else (sp_X7_draw_n6 (sp_X7_draw_B83 n) x15 (sp_X7_both M16 x15 1 1 2)) := hT
      have hV : if 6 ≤ x15 then (vc_X7_both M16 3 6 1 4 ∧ (vc_X7_draw_n3 (sp_X7_both M16 3 6 1 4))) else (vc_X7_both M16 x15 1 1 2 ∧ (vc_X7_draw_n6 (vc_X7_draw_B83 n) x15 (sp_X7_both M16 x15 1 1 2))) := hV
      refine lv_iload_n hx hb dX7_draw_83 rfl (lv_at hl 1 rfl) ?_
      refine lv_bipush (v := 6) hx hb dX7_draw_84 (by decide) ?_
      refine lv_icmp_ge (tgt := 111) hx hb dX7_draw_86 (by decide) (fun c86 => ?_) (fun c86 => ?_)
      · have hT : sp_X7_draw M = sp_X7_draw_n3 (sp_X7_both M16 3 6 1 4) := hT.trans (if_pos c86)
        have hV : vc_X7_both M16 3 6 1 4 ∧ (vc_X7_draw_n3 (sp_X7_both M16 3 6 1 4)) := iteT hV c86
        refine lv_aload_n hx hb dX7_draw_111 rfl (lv_at hl 0 rfl) ?_
        refine lv_iconst (v := 3) hx hb dX7_draw_112 (by decide) ?_
        refine lv_bipush (v := 6) hx hb dX7_draw_113 (by decide) ?_
        refine lv_iconst (v := 1) hx hb dX7_draw_115 (by decide) ?_
        refine lv_iconst (v := 4) hx hb dX7_draw_116 (by decide) ?_
        obtain ⟨v117, hV⟩ : vc_X7_both M16 3 6 1 4 ∧ (vc_X7_draw_n3 (sp_X7_both M16 3 6 1 4)) := hV
        refine q_Cv (q_V (own := "MazeBoardModel") (y := yX7_both) (As := [.int 3, .int 6, .int 1, .int 4]) (rest := []) ⟨hx, hb, hml, hown, hB⟩ hK hE hC (c_X7_both l D cy ad L H.size (hL.sub (by decide) (by decide)) M16 3 6 1 4 v117) rfl (hL 20 (by decide) (by decide)) rfl mw_3_28 mw_3_30 mw_0_23 mw_1_7 mw_3_31 rfl yd_X7_both ⟨rfl, rfl⟩ ⟨Nat.le_of_ble_eq_true rfl, Nat.le_of_ble_eq_true rfl⟩ rfl hl.1 rfl (Nat.le_of_ble_eq_true rfl) dX7_draw_117 ⟨Nat.le_refl _, Nat.le_refl _⟩) hC (fun M17 H locs eM17 hC => ?_)
        have hT : sp_X7_draw M = sp_X7_draw_n3 M17 := by rw [eM17]; exact hT
        have hV : vc_X7_draw_n3 M17 := by rw [eM17]; exact hV
        refine lv_aload_n hx hb dX7_draw_120 rfl (lv_at hl 0 rfl) ?_
        refine lv_iconst (v := 4) hx hb dX7_draw_121 (by decide) ?_
        refine lv_iconst (v := 0) hx hb dX7_draw_122 (by decide) ?_
        refine lv_iconst (v := 4) hx hb dX7_draw_123 (by decide) ?_
        refine lv_iconst (v := 2) hx hb dX7_draw_124 (by decide) ?_
        obtain ⟨v125, hV⟩ : vc_X7_both M17 4 0 4 2 ∧ (vc_X7_draw_n2 (sp_X7_both M17 4 0 4 2)) := hV
        refine q_Cv (q_V (own := "MazeBoardModel") (y := yX7_both) (As := [.int 4, .int 0, .int 4, .int 2]) (rest := []) ⟨hx, hb, hml, hown, hB⟩ hK hE hC (c_X7_both l D cy ad L H.size (hL.sub (by decide) (by decide)) M17 4 0 4 2 v125) rfl (hL 20 (by decide) (by decide)) rfl mw_3_28 mw_3_30 mw_0_23 mw_1_7 mw_3_31 rfl yd_X7_both ⟨rfl, rfl⟩ ⟨Nat.le_of_ble_eq_true rfl, Nat.le_of_ble_eq_true rfl⟩ rfl hl.1 rfl (Nat.le_of_ble_eq_true rfl) dX7_draw_125 ⟨Nat.le_refl _, Nat.le_refl _⟩) hC (fun M18 H locs eM18 hC => ?_)
        have hT : sp_X7_draw M = sp_X7_draw_n2 M18 := by rw [eM18]; exact hT
        have hV : vc_X7_draw_n2 M18 := by rw [eM18]; exact hV
        refine lv_aload_n hx hb dX7_draw_128 rfl (lv_at hl 0 rfl) ?_
        refine lv_iconst (v := 4) hx hb dX7_draw_129 (by decide) ?_
        refine lv_iconst (v := 5) hx hb dX7_draw_130 (by decide) ?_
        refine lv_iconst (v := 2) hx hb dX7_draw_131 (by decide) ?_
        refine lv_iconst (v := 4) hx hb dX7_draw_132 (by decide) ?_
        have v133 : vc_X7_both M18 4 5 2 4 := hV
        refine q_Cv (q_V (own := "MazeBoardModel") (y := yX7_both) (As := [.int 4, .int 5, .int 2, .int 4]) (rest := []) ⟨hx, hb, hml, hown, hB⟩ hK hE hC (c_X7_both l D cy ad L H.size (hL.sub (by decide) (by decide)) M18 4 5 2 4 v133) rfl (hL 20 (by decide) (by decide)) rfl mw_3_28 mw_3_30 mw_0_23 mw_1_7 mw_3_31 rfl yd_X7_both ⟨rfl, rfl⟩ ⟨Nat.le_of_ble_eq_true rfl, Nat.le_of_ble_eq_true rfl⟩ rfl hl.1 rfl (Nat.le_of_ble_eq_true rfl) dX7_draw_133 ⟨Nat.le_refl _, Nat.le_refl _⟩) hC (fun M19 H locs eM19 hC => ?_)
        have hT : sp_X7_draw M = sp_X7_draw_n1 M19 := by rw [eM19]; exact hT
        exact q_retv hx hb hr hlocks hC hT.symm dX7_draw_136
      · have hT : sp_X7_draw M = sp_X7_draw_n6 (sp_X7_draw_B83 n) x15 (sp_X7_both M16 x15 1 1 2) := hT.trans (if_neg c86)
        have hV : vc_X7_both M16 x15 1 1 2 ∧ (vc_X7_draw_n6 (vc_X7_draw_B83 n) x15 (sp_X7_both M16 x15 1 1 2)) := iteF hV c86
        refine lv_aload_n hx hb dX7_draw_89 rfl (lv_at hl 0 rfl) ?_
        refine lv_iload_n hx hb dX7_draw_90 rfl (lv_at hl 1 rfl) ?_
        refine lv_iconst (v := 1) hx hb dX7_draw_91 (by decide) ?_
        refine lv_iconst (v := 1) hx hb dX7_draw_92 (by decide) ?_
        refine lv_iconst (v := 2) hx hb dX7_draw_93 (by decide) ?_
        obtain ⟨v94, hV⟩ : vc_X7_both M16 x15 1 1 2 ∧ (vc_X7_draw_n6 (vc_X7_draw_B83 n) x15 (sp_X7_both M16 x15 1 1 2)) := hV
        refine q_Cv (q_V (own := "MazeBoardModel") (y := yX7_both) (As := [.int x15, .int 1, .int 1, .int 2]) (rest := []) ⟨hx, hb, hml, hown, hB⟩ hK hE hC (c_X7_both l D cy ad L H.size (hL.sub (by decide) (by decide)) M16 x15 1 1 2 v94) rfl (hL 20 (by decide) (by decide)) rfl mw_3_28 mw_3_30 mw_0_23 mw_1_7 mw_3_31 rfl yd_X7_both ⟨rfl, rfl⟩ ⟨Nat.le_of_ble_eq_true rfl, Nat.le_of_ble_eq_true rfl⟩ rfl hl.1 rfl (Nat.le_of_ble_eq_true rfl) dX7_draw_94 ⟨Nat.le_refl _, Nat.le_refl _⟩) hC (fun M20 H locs eM20 hC => ?_)
        have hT : sp_X7_draw M = sp_X7_draw_n6 (sp_X7_draw_B83 n) x15 M20 := by rw [eM20]; exact hT
        have hV : vc_X7_draw_n6 (vc_X7_draw_B83 n) x15 M20 := by rw [eM20]; exact hV
        refine lv_aload_n hx hb dX7_draw_97 rfl (lv_at hl 0 rfl) ?_
        refine lv_iload_n hx hb dX7_draw_98 rfl (lv_at hl 1 rfl) ?_
        refine lv_iconst (v := 3) hx hb dX7_draw_99 (by decide) ?_
        refine lv_iconst (v := 2) hx hb dX7_draw_100 (by decide) ?_
        refine lv_iconst (v := 2) hx hb dX7_draw_101 (by decide) ?_
        obtain ⟨v102, hV⟩ : vc_X7_both M20 x15 3 2 2 ∧ (vc_X7_draw_n5 (vc_X7_draw_B83 n) x15 (sp_X7_both M20 x15 3 2 2)) := hV
        refine q_Cv (q_V (own := "MazeBoardModel") (y := yX7_both) (As := [.int x15, .int 3, .int 2, .int 2]) (rest := []) ⟨hx, hb, hml, hown, hB⟩ hK hE hC (c_X7_both l D cy ad L H.size (hL.sub (by decide) (by decide)) M20 x15 3 2 2 v102) rfl (hL 20 (by decide) (by decide)) rfl mw_3_28 mw_3_30 mw_0_23 mw_1_7 mw_3_31 rfl yd_X7_both ⟨rfl, rfl⟩ ⟨Nat.le_of_ble_eq_true rfl, Nat.le_of_ble_eq_true rfl⟩ rfl hl.1 rfl (Nat.le_of_ble_eq_true rfl) dX7_draw_102 ⟨Nat.le_refl _, Nat.le_refl _⟩) hC (fun M21 H locs eM21 hC => ?_)
        have hT : sp_X7_draw M = sp_X7_draw_n5 (sp_X7_draw_B83 n) x15 M21 := by rw [eM21]; exact hT
        have hV : vc_X7_draw_n5 (vc_X7_draw_B83 n) x15 M21 := by rw [eM21]; exact hV
        obtain ⟨x22, ex22⟩ : ∃ z : Int32, z = x15 + 2 := ⟨_, rfl⟩
        have hT : sp_X7_draw M = sp_X7_draw_n4 (sp_X7_draw_B83 n) M21 x22 := by rw [ex22]; exact hT
        have hV : vc_X7_draw_n4 (vc_X7_draw_B83 n) M21 x22 := by rw [ex22]; exact hV
        refine lv_iinc (v := x22) (lv' := [(1, .int x22), (0, .ref (ad 20))]) hx hb dX7_draw_105 hl (k := 1) rfl (by rw [ex22]; rfl) (by decide) rfl (fun ls hl => ?_)
        refine lv_goto (tgt := 83) hx hb dX7_draw_108 (by decide) ?_
        exact ih x22 M21 _ _ _  hT hV hC (lv_sub hl [1, 0] rfl)
  have J53 : ∀ (n : Nat) (x10 : Int32) (M11 : Mem) (H : Heap) (locs : List Loc) (ls : Array Slot) (hT : sp_X7_draw M = sp_X7_draw_B53 n x10 M11) (hV : vc_X7_draw_B53 n x10 M11) (hC : Cx D cy ad R0 L (fA ad L s.heap.size) s M11 H locs) (hl : lv_has ls 2 [(0, .ref (ad 20)), (1, .int x10)]), W p l e ({ frames := 1, cells := 0, slots := 0, locals := 25 }) s m ([.ref (ad 20)] : List Value).toArray below meth c H locs 0 0 (MQ below (va_Qv (fun N => N = sp_X7_draw M) (OW D cy ad L s.heap.size) (fA ad L s.heap.size)) ([.ref (ad 20)] : List Value).toArray s 0 0 (fA ad L s.heap.size)) (F0 m 53 ls []) := by
    intro n
    induction n with
    | zero => intro x10 M11 H locs ls  hT hV; exact hV.elim
    | succ n ih =>
      intro x10 M11 H locs ls  hT hV hC hl
      have hT : sp_X7_draw M = if 7 ≤ x10 then (sp_X7_draw_B83 118 3 M11) else (sp_X7_draw_n9 (sp_X7_draw_B53 n) x10 (sp_X7_both M11 x10 1 1 2)) := hT
      have hV : if 7 ≤ x10 then vc_X7_draw_B83 118 3 M11 else (vc_X7_both M11 x10 1 1 2 ∧ (vc_X7_draw_n9 (vc_X7_draw_B53 n) x10 (sp_X7_both M11 x10 1 1 2))) := hV
      refine lv_iload_n hx hb dX7_draw_53 rfl (lv_at hl 1 rfl) ?_
      refine lv_bipush (v := 7) hx hb dX7_draw_54 (by decide) ?_
      refine lv_icmp_ge (tgt := 81) hx hb dX7_draw_56 (by decide) (fun c56 => ?_) (fun c56 => ?_)
      · have hT : sp_X7_draw M = sp_X7_draw_B83 118 3 M11 := hT.trans (if_pos c56)
        have hV : vc_X7_draw_B83 118 3 M11 := iteT hV c56
        refine lv_iconst (v := 3) hx hb dX7_draw_81 (by decide) ?_
        refine lv_istore_n (lv' := [(1, .int 3), (0, .ref (ad 20))]) hx hb dX7_draw_82 rfl hl (by decide) rfl (fun ls hl => ?_)
        exact J83 118 3 M11 _ _ _  hT hV hC (lv_sub hl [1, 0] rfl)
      · have hT : sp_X7_draw M = sp_X7_draw_n9 (sp_X7_draw_B53 n) x10 (sp_X7_both M11 x10 1 1 2) := hT.trans (if_neg c56)
        have hV : vc_X7_both M11 x10 1 1 2 ∧ (vc_X7_draw_n9 (vc_X7_draw_B53 n) x10 (sp_X7_both M11 x10 1 1 2)) := iteF hV c56
        refine lv_aload_n hx hb dX7_draw_59 rfl (lv_at hl 0 rfl) ?_
        refine lv_iload_n hx hb dX7_draw_60 rfl (lv_at hl 1 rfl) ?_
        refine lv_iconst (v := 1) hx hb dX7_draw_61 (by decide) ?_
        refine lv_iconst (v := 1) hx hb dX7_draw_62 (by decide) ?_
        refine lv_iconst (v := 2) hx hb dX7_draw_63 (by decide) ?_
        obtain ⟨v64, hV⟩ : vc_X7_both M11 x10 1 1 2 ∧ (vc_X7_draw_n9 (vc_X7_draw_B53 n) x10 (sp_X7_both M11 x10 1 1 2)) := hV
        refine q_Cv (q_V (own := "MazeBoardModel") (y := yX7_both) (As := [.int x10, .int 1, .int 1, .int 2]) (rest := []) ⟨hx, hb, hml, hown, hB⟩ hK hE hC (c_X7_both l D cy ad L H.size (hL.sub (by decide) (by decide)) M11 x10 1 1 2 v64) rfl (hL 20 (by decide) (by decide)) rfl mw_3_28 mw_3_30 mw_0_23 mw_1_7 mw_3_31 rfl yd_X7_both ⟨rfl, rfl⟩ ⟨Nat.le_of_ble_eq_true rfl, Nat.le_of_ble_eq_true rfl⟩ rfl hl.1 rfl (Nat.le_of_ble_eq_true rfl) dX7_draw_64 ⟨Nat.le_refl _, Nat.le_refl _⟩) hC (fun M12 H locs eM12 hC => ?_)
        have hT : sp_X7_draw M = sp_X7_draw_n9 (sp_X7_draw_B53 n) x10 M12 := by rw [eM12]; exact hT
        have hV : vc_X7_draw_n9 (vc_X7_draw_B53 n) x10 M12 := by rw [eM12]; exact hV
        refine lv_aload_n hx hb dX7_draw_67 rfl (lv_at hl 0 rfl) ?_
        refine lv_iload_n hx hb dX7_draw_68 rfl (lv_at hl 1 rfl) ?_
        refine lv_iconst (v := 4) hx hb dX7_draw_69 (by decide) ?_
        refine lv_iconst (v := 3) hx hb dX7_draw_70 (by decide) ?_
        refine lv_iconst (v := 2) hx hb dX7_draw_71 (by decide) ?_
        obtain ⟨v72, hV⟩ : vc_X7_both M12 x10 4 3 2 ∧ (vc_X7_draw_n8 (vc_X7_draw_B53 n) x10 (sp_X7_both M12 x10 4 3 2)) := hV
        refine q_Cv (q_V (own := "MazeBoardModel") (y := yX7_both) (As := [.int x10, .int 4, .int 3, .int 2]) (rest := []) ⟨hx, hb, hml, hown, hB⟩ hK hE hC (c_X7_both l D cy ad L H.size (hL.sub (by decide) (by decide)) M12 x10 4 3 2 v72) rfl (hL 20 (by decide) (by decide)) rfl mw_3_28 mw_3_30 mw_0_23 mw_1_7 mw_3_31 rfl yd_X7_both ⟨rfl, rfl⟩ ⟨Nat.le_of_ble_eq_true rfl, Nat.le_of_ble_eq_true rfl⟩ rfl hl.1 rfl (Nat.le_of_ble_eq_true rfl) dX7_draw_72 ⟨Nat.le_refl _, Nat.le_refl _⟩) hC (fun M13 H locs eM13 hC => ?_)
        have hT : sp_X7_draw M = sp_X7_draw_n8 (sp_X7_draw_B53 n) x10 M13 := by rw [eM13]; exact hT
        have hV : vc_X7_draw_n8 (vc_X7_draw_B53 n) x10 M13 := by rw [eM13]; exact hV
        obtain ⟨x14, ex14⟩ : ∃ z : Int32, z = x10 + 4 := ⟨_, rfl⟩
        have hT : sp_X7_draw M = sp_X7_draw_n7 (sp_X7_draw_B53 n) M13 x14 := by rw [ex14]; exact hT
        have hV : vc_X7_draw_n7 (vc_X7_draw_B53 n) M13 x14 := by rw [ex14]; exact hV
        refine lv_iinc (v := x14) (lv' := [(1, .int x14), (0, .ref (ad 20))]) hx hb dX7_draw_75 hl (k := 1) rfl (by rw [ex14]; rfl) (by decide) rfl (fun ls hl => ?_)
        refine lv_goto (tgt := 53) hx hb dX7_draw_78 (by decide) ?_
        exact ih x14 M13 _ _ _  hT hV hC (lv_sub hl [1, 0] rfl)
  have J23 : ∀ (n : Nat) (x5 : Int32) (M6 : Mem) (H : Heap) (locs : List Loc) (ls : Array Slot) (hT : sp_X7_draw M = sp_X7_draw_B23 n x5 M6) (hV : vc_X7_draw_B23 n x5 M6) (hC : Cx D cy ad R0 L (fA ad L s.heap.size) s M6 H locs) (hl : lv_has ls 2 [(0, .ref (ad 20)), (1, .int x5)]), W p l e ({ frames := 1, cells := 0, slots := 0, locals := 25 }) s m ([.ref (ad 20)] : List Value).toArray below meth c H locs 0 0 (MQ below (va_Qv (fun N => N = sp_X7_draw M) (OW D cy ad L s.heap.size) (fA ad L s.heap.size)) ([.ref (ad 20)] : List Value).toArray s 0 0 (fA ad L s.heap.size)) (F0 m 23 ls []) := by
    intro n
    induction n with
    | zero => intro x5 M6 H locs ls  hT hV; exact hV.elim
    | succ n ih =>
      intro x5 M6 H locs ls  hT hV hC hl
      have hT : sp_X7_draw M = if 8 ≤ x5 then (sp_X7_draw_B53 118 2 M6) else (sp_X7_draw_n12 (sp_X7_draw_B23 n) x5 (sp_X7_both M6 x5 1 1 3)) := hT
      have hV : if 8 ≤ x5 then vc_X7_draw_B53 118 2 M6 else (vc_X7_both M6 x5 1 1 3 ∧ (vc_X7_draw_n12 (vc_X7_draw_B23 n) x5 (sp_X7_both M6 x5 1 1 3))) := hV
      refine lv_iload_n hx hb dX7_draw_23 rfl (lv_at hl 1 rfl) ?_
      refine lv_bipush (v := 8) hx hb dX7_draw_24 (by decide) ?_
      refine lv_icmp_ge (tgt := 51) hx hb dX7_draw_26 (by decide) (fun c26 => ?_) (fun c26 => ?_)
      · have hT : sp_X7_draw M = sp_X7_draw_B53 118 2 M6 := hT.trans (if_pos c26)
        have hV : vc_X7_draw_B53 118 2 M6 := iteT hV c26
        refine lv_iconst (v := 2) hx hb dX7_draw_51 (by decide) ?_
        refine lv_istore_n (lv' := [(1, .int 2), (0, .ref (ad 20))]) hx hb dX7_draw_52 rfl hl (by decide) rfl (fun ls hl => ?_)
        exact J53 118 2 M6 _ _ _  hT hV hC (lv_sub hl [1, 0] rfl)
      · have hT : sp_X7_draw M = sp_X7_draw_n12 (sp_X7_draw_B23 n) x5 (sp_X7_both M6 x5 1 1 3) := hT.trans (if_neg c26)
        have hV : vc_X7_both M6 x5 1 1 3 ∧ (vc_X7_draw_n12 (vc_X7_draw_B23 n) x5 (sp_X7_both M6 x5 1 1 3)) := iteF hV c26
        refine lv_aload_n hx hb dX7_draw_29 rfl (lv_at hl 0 rfl) ?_
        refine lv_iload_n hx hb dX7_draw_30 rfl (lv_at hl 1 rfl) ?_
        refine lv_iconst (v := 1) hx hb dX7_draw_31 (by decide) ?_
        refine lv_iconst (v := 1) hx hb dX7_draw_32 (by decide) ?_
        refine lv_iconst (v := 3) hx hb dX7_draw_33 (by decide) ?_
        obtain ⟨v34, hV⟩ : vc_X7_both M6 x5 1 1 3 ∧ (vc_X7_draw_n12 (vc_X7_draw_B23 n) x5 (sp_X7_both M6 x5 1 1 3)) := hV
        refine q_Cv (q_V (own := "MazeBoardModel") (y := yX7_both) (As := [.int x5, .int 1, .int 1, .int 3]) (rest := []) ⟨hx, hb, hml, hown, hB⟩ hK hE hC (c_X7_both l D cy ad L H.size (hL.sub (by decide) (by decide)) M6 x5 1 1 3 v34) rfl (hL 20 (by decide) (by decide)) rfl mw_3_28 mw_3_30 mw_0_23 mw_1_7 mw_3_31 rfl yd_X7_both ⟨rfl, rfl⟩ ⟨Nat.le_of_ble_eq_true rfl, Nat.le_of_ble_eq_true rfl⟩ rfl hl.1 rfl (Nat.le_of_ble_eq_true rfl) dX7_draw_34 ⟨Nat.le_refl _, Nat.le_refl _⟩) hC (fun M7 H locs eM7 hC => ?_)
        have hT : sp_X7_draw M = sp_X7_draw_n12 (sp_X7_draw_B23 n) x5 M7 := by rw [eM7]; exact hT
        have hV : vc_X7_draw_n12 (vc_X7_draw_B23 n) x5 M7 := by rw [eM7]; exact hV
        refine lv_aload_n hx hb dX7_draw_37 rfl (lv_at hl 0 rfl) ?_
        refine lv_iload_n hx hb dX7_draw_38 rfl (lv_at hl 1 rfl) ?_
        refine lv_iconst (v := 2) hx hb dX7_draw_39 (by decide) ?_
        refine lv_iconst (v := 4) hx hb dX7_draw_40 (by decide) ?_
        refine lv_iconst (v := 2) hx hb dX7_draw_41 (by decide) ?_
        obtain ⟨v42, hV⟩ : vc_X7_both M7 x5 2 4 2 ∧ (vc_X7_draw_n11 (vc_X7_draw_B23 n) x5 (sp_X7_both M7 x5 2 4 2)) := hV
        refine q_Cv (q_V (own := "MazeBoardModel") (y := yX7_both) (As := [.int x5, .int 2, .int 4, .int 2]) (rest := []) ⟨hx, hb, hml, hown, hB⟩ hK hE hC (c_X7_both l D cy ad L H.size (hL.sub (by decide) (by decide)) M7 x5 2 4 2 v42) rfl (hL 20 (by decide) (by decide)) rfl mw_3_28 mw_3_30 mw_0_23 mw_1_7 mw_3_31 rfl yd_X7_both ⟨rfl, rfl⟩ ⟨Nat.le_of_ble_eq_true rfl, Nat.le_of_ble_eq_true rfl⟩ rfl hl.1 rfl (Nat.le_of_ble_eq_true rfl) dX7_draw_42 ⟨Nat.le_refl _, Nat.le_refl _⟩) hC (fun M8 H locs eM8 hC => ?_)
        have hT : sp_X7_draw M = sp_X7_draw_n11 (sp_X7_draw_B23 n) x5 M8 := by rw [eM8]; exact hT
        have hV : vc_X7_draw_n11 (vc_X7_draw_B23 n) x5 M8 := by rw [eM8]; exact hV
        obtain ⟨x9, ex9⟩ : ∃ z : Int32, z = x5 + 6 := ⟨_, rfl⟩
        have hT : sp_X7_draw M = sp_X7_draw_n10 (sp_X7_draw_B23 n) M8 x9 := by rw [ex9]; exact hT
        have hV : vc_X7_draw_n10 (vc_X7_draw_B23 n) M8 x9 := by rw [ex9]; exact hV
        refine lv_iinc (v := x9) (lv' := [(1, .int x9), (0, .ref (ad 20))]) hx hb dX7_draw_45 hl (k := 1) rfl (by rw [ex9]; rfl) (by decide) rfl (fun ls hl => ?_)
        refine lv_goto (tgt := 23) hx hb dX7_draw_48 (by decide) ?_
        exact ih x9 M8 _ _ _  hT hV hC (lv_sub hl [1, 0] rfl)
  have J2 : ∀ (n : Nat) (x1 : Int32) (M2 : Mem) (H : Heap) (locs : List Loc) (ls : Array Slot) (hT : sp_X7_draw M = sp_X7_draw_B2 n x1 M2) (hV : vc_X7_draw_B2 n x1 M2) (hC : Cx D cy ad R0 L (fA ad L s.heap.size) s M2 H locs) (hl : lv_has ls 2 [(0, .ref (ad 20)), (1, .int x1)]), W p l e ({ frames := 1, cells := 0, slots := 0, locals := 25 }) s m ([.ref (ad 20)] : List Value).toArray below meth c H locs 0 0 (MQ below (va_Qv (fun N => N = sp_X7_draw M) (OW D cy ad L s.heap.size) (fA ad L s.heap.size)) ([.ref (ad 20)] : List Value).toArray s 0 0 (fA ad L s.heap.size)) (F0 m 2 ls []) := by
    intro n
    induction n with
    | zero => intro x1 M2 H locs ls  hT hV; exact hV.elim
    | succ n ih =>
      intro x1 M2 H locs ls  hT hV hC hl
      have hT : sp_X7_draw M = if 117 ≤ x1 then (sp_X7_draw_B23 118 1 M2) else (sp_X7_draw_n14 (sp_X7_draw_B2 n) x1 (wI M2 21 x1.toNatClampNeg 1)) := hT
      have hV : if 117 ≤ x1 then vc_X7_draw_B23 118 1 M2 else (vp_in x1 117 ∧ (vc_X7_draw_n14 (vc_X7_draw_B2 n) x1 (wI M2 21 x1.toNatClampNeg 1))) := hV
      refine lv_iload_n hx hb dX7_draw_2 rfl (lv_at hl 1 rfl) ?_
      refine lv_bipush (v := 117) hx hb dX7_draw_3 (by decide) ?_
      refine lv_icmp_ge (tgt := 21) hx hb dX7_draw_5 (by decide) (fun c5 => ?_) (fun c5 => ?_)
      · have hT : sp_X7_draw M = sp_X7_draw_B23 118 1 M2 := hT.trans (if_pos c5)
        have hV : vc_X7_draw_B23 118 1 M2 := iteT hV c5
        refine lv_iconst (v := 1) hx hb dX7_draw_21 (by decide) ?_
        refine lv_istore_n (lv' := [(1, .int 1), (0, .ref (ad 20))]) hx hb dX7_draw_22 rfl hl (by decide) rfl (fun ls hl => ?_)
        exact J23 118 1 M2 _ _ _  hT hV hC (lv_sub hl [1, 0] rfl)
      · have hT : sp_X7_draw M = sp_X7_draw_n14 (sp_X7_draw_B2 n) x1 (wI M2 21 x1.toNatClampNeg 1) := hT.trans (if_neg c5)
        have hV : vp_in x1 117 ∧ (vc_X7_draw_n14 (vc_X7_draw_B2 n) x1 (wI M2 21 x1.toNatClampNeg 1)) := iteF hV c5
        refine lv_aload_n hx hb dX7_draw_8 rfl (lv_at hl 0 rfl) ?_
        refine q_getr (T := TX7) hx hb hB uw_X7 hown hK hC rfl (hL 20 (by decide) (by decide)) rfl 0 (by decide) rfl rfl (hB _ mw_3_44) dX7_draw_9 ?_
        refine lv_iload_n hx hb dX7_draw_12 rfl (lv_at hl 1 rfl) ?_
        refine lv_iconst (v := 1) hx hb dX7_draw_13 (by decide) ?_
        obtain ⟨w14, hV⟩ : vp_in x1 117 ∧ (vc_X7_draw_n14 (vc_X7_draw_B2 n) x1 (wI M2 21 x1.toNatClampNeg 1)) := hV
        refine q_iast hx hb hK hC rfl (hL 21 (by decide) (by decide)) rfl w14 rfl dX7_draw_14 (fun H locs hC => ?_)
        obtain ⟨M3, eM3⟩ : ∃ z : Mem, z = wI M2 21 x1.toNatClampNeg 1 := ⟨_, rfl⟩
        rw [← eM3] at hC
        have hT : sp_X7_draw M = sp_X7_draw_n14 (sp_X7_draw_B2 n) x1 M3 := by rw [eM3]; exact hT
        have hV : vc_X7_draw_n14 (vc_X7_draw_B2 n) x1 M3 := by rw [eM3]; exact hV
        obtain ⟨x4, ex4⟩ : ∃ z : Int32, z = x1 + 1 := ⟨_, rfl⟩
        have hT : sp_X7_draw M = sp_X7_draw_n13 (sp_X7_draw_B2 n) M3 x4 := by rw [ex4]; exact hT
        have hV : vc_X7_draw_n13 (vc_X7_draw_B2 n) M3 x4 := by rw [ex4]; exact hV
        refine lv_iinc (v := x4) (lv' := [(1, .int x4), (0, .ref (ad 20))]) hx hb dX7_draw_15 hl (k := 1) rfl (by rw [ex4]; rfl) (by decide) rfl (fun ls hl => ?_)
        refine lv_goto (tgt := 2) hx hb dX7_draw_18 (by decide) ?_
        exact ih x4 M3 _ _ _  hT hV hC (lv_sub hl [1, 0] rfl)
  have hT : sp_X7_draw M = sp_X7_draw_B2 118 0 M := rfl
  have hV : vc_X7_draw_B2 118 0 M := hV
  refine lv_iconst (v := 0) hx hb dX7_draw_0 (by decide) ?_
  refine lv_istore_n (lv' := [(1, .int 0), (0, .ref (ad 20))]) hx hb dX7_draw_1 rfl hl (by decide) rfl (fun ls hl => ?_)
  exact J2 118 0 M _ _ _  hT hV hC (lv_sub hl [1, 0] rfl)
set_option maxHeartbeats 4000000 in
set_option maxRecDepth 100000 in
theorem c_X7_fill (l : Launch) (D : va_G) (cy ad : Nat → Nat) (L : List Nat) (sz : Nat) (hL : lr 20 34 L) (M : Mem)  (hV : vc_X7_fill M ) : Met l yX7_fill (Cond.code yX7_fill cX7_fill 2 (none) :: BG) ({ frames := 0, cells := 0, slots := 0, locals := 0 }) (va_Pc [.ref (ad 20)] (PW D cy ad L M sz)) (va_Qv (fun N => N = sp_X7_fill M) (OW D cy ad L sz) (fA ad L sz)) 0 0 (fA ad L sz) := by
  refine q_start (by decide) (Nat.le_of_ble_eq_true rfl) (fun p e s m below meth c H locs ls hsz hx hb hr hlocks hml hown hB hK hE hC hl => ?_)
  subst hsz
  have hown : s.vm.findClass "MazeBoardModel" = some m.cls := hown
  have hl : lv_has ls 2 [(0, .ref (ad 20))] := hl
  have J2 : ∀ (n : Nat) (x1 : Int32) (M2 : Mem) (H : Heap) (locs : List Loc) (ls : Array Slot) (hT : sp_X7_fill M = sp_X7_fill_B2 n x1 M2) (hV : vc_X7_fill_B2 n x1 M2) (hC : Cx D cy ad R0 L (fA ad L s.heap.size) s M2 H locs) (hl : lv_has ls 2 [(0, .ref (ad 20)), (1, .int x1)]), W p l e ({ frames := 0, cells := 0, slots := 0, locals := 0 }) s m ([.ref (ad 20)] : List Value).toArray below meth c H locs 0 0 (MQ below (va_Qv (fun N => N = sp_X7_fill M) (OW D cy ad L s.heap.size) (fA ad L s.heap.size)) ([.ref (ad 20)] : List Value).toArray s 0 0 (fA ad L s.heap.size)) (F0 m 2 ls []) := by
    intro n
    induction n with
    | zero => intro x1 M2 H locs ls  hT hV; exact hV.elim
    | succ n ih =>
      intro x1 M2 H locs ls  hT hV hC hl
      have hT : sp_X7_fill M = if 117 ≤ x1 then M2 else (sp_X7_fill_n2 (sp_X7_fill_B2 n) x1 (wI M2 22 x1.toNatClampNeg (gI M2 21 x1.toNatClampNeg))) := hT
      have hV : if 117 ≤ x1 then True else (vp_in x1 117 ∧ (vp_in x1 117 ∧ (vc_X7_fill_n2 (vc_X7_fill_B2 n) x1 (wI M2 22 x1.toNatClampNeg (gI M2 21 x1.toNatClampNeg))))) := hV
      refine lv_iload_n hx hb dX7_fill_2 rfl (lv_at hl 1 rfl) ?_
      refine lv_bipush (v := 117) hx hb dX7_fill_3 (by decide) ?_
      refine lv_icmp_ge (tgt := 26) hx hb dX7_fill_5 (by decide) (fun c5 => ?_) (fun c5 => ?_)
      · have hT : sp_X7_fill M = M2 := hT.trans (if_pos c5)
        exact q_retv hx hb hr hlocks hC hT.symm dX7_fill_26
      · have hT : sp_X7_fill M = sp_X7_fill_n2 (sp_X7_fill_B2 n) x1 (wI M2 22 x1.toNatClampNeg (gI M2 21 x1.toNatClampNeg)) := hT.trans (if_neg c5)
        have hV : vp_in x1 117 ∧ (vp_in x1 117 ∧ (vc_X7_fill_n2 (vc_X7_fill_B2 n) x1 (wI M2 22 x1.toNatClampNeg (gI M2 21 x1.toNatClampNeg)))) := iteF hV c5
        refine lv_aload_n hx hb dX7_fill_8 rfl (lv_at hl 0 rfl) ?_
        refine q_getr (T := TX7) hx hb hB uw_X7 hown hK hC rfl (hL 20 (by decide) (by decide)) rfl 1 (by decide) rfl rfl (hB _ mw_3_45) dX7_fill_9 ?_
        refine lv_iload_n hx hb dX7_fill_12 rfl (lv_at hl 1 rfl) ?_
        refine lv_aload_n hx hb dX7_fill_13 rfl (lv_at hl 0 rfl) ?_
        refine q_getr (T := TX7) hx hb hB uw_X7 hown hK hC rfl (hL 20 (by decide) (by decide)) rfl 0 (by decide) rfl rfl (hB _ mw_3_44) dX7_fill_14 ?_
        refine lv_iload_n hx hb dX7_fill_17 rfl (lv_at hl 1 rfl) ?_
        obtain ⟨w18, hV⟩ : vp_in x1 117 ∧ (vp_in x1 117 ∧ (vc_X7_fill_n2 (vc_X7_fill_B2 n) x1 (wI M2 22 x1.toNatClampNeg (gI M2 21 x1.toNatClampNeg)))) := hV
        refine q_iald hx hb hK hC rfl (hL 21 (by decide) (by decide)) rfl w18 rfl dX7_fill_18 ?_
        obtain ⟨w19, hV⟩ : vp_in x1 117 ∧ (vc_X7_fill_n2 (vc_X7_fill_B2 n) x1 (wI M2 22 x1.toNatClampNeg (gI M2 21 x1.toNatClampNeg))) := hV
        refine q_iast hx hb hK hC rfl (hL 22 (by decide) (by decide)) rfl w19 rfl dX7_fill_19 (fun H locs hC => ?_)
        obtain ⟨M3, eM3⟩ : ∃ z : Mem, z = wI M2 22 x1.toNatClampNeg (gI M2 21 x1.toNatClampNeg) := ⟨_, rfl⟩
        rw [← eM3] at hC
        have hT : sp_X7_fill M = sp_X7_fill_n2 (sp_X7_fill_B2 n) x1 M3 := by rw [eM3]; exact hT
        have hV : vc_X7_fill_n2 (vc_X7_fill_B2 n) x1 M3 := by rw [eM3]; exact hV
        obtain ⟨x4, ex4⟩ : ∃ z : Int32, z = x1 + 1 := ⟨_, rfl⟩
        have hT : sp_X7_fill M = sp_X7_fill_n1 (sp_X7_fill_B2 n) M3 x4 := by rw [ex4]; exact hT
        have hV : vc_X7_fill_n1 (vc_X7_fill_B2 n) M3 x4 := by rw [ex4]; exact hV
        refine lv_iinc (v := x4) (lv' := [(1, .int x4), (0, .ref (ad 20))]) hx hb dX7_fill_20 hl (k := 1) rfl (by rw [ex4]; rfl) (by decide) rfl (fun ls hl => ?_)
        refine lv_goto (tgt := 2) hx hb dX7_fill_23 (by decide) ?_
        exact ih x4 M3 _ _ _  hT hV hC (lv_sub hl [1, 0] rfl)
  have hT : sp_X7_fill M = sp_X7_fill_B2 118 0 M := rfl
  have hV : vc_X7_fill_B2 118 0 M := hV
  refine lv_iconst (v := 0) hx hb dX7_fill_0 (by decide) ?_
  refine lv_istore_n (lv' := [(1, .int 0), (0, .ref (ad 20))]) hx hb dX7_fill_1 rfl hl (by decide) rfl (fun ls hl => ?_)
  exact J2 118 0 M _ _ _  hT hV hC (lv_sub hl [1, 0] rfl)
set_option maxHeartbeats 4000000 in
set_option maxRecDepth 100000 in
theorem c_X7_put (l : Launch) (D : va_G) (cy ad : Nat → Nat) (L : List Nat) (sz : Nat) (hL : lr 20 34 L) (M : Mem) (a1 : Int32) (a2 : Int32) (a3 : Int32) (a4 : Int32) (a5 : Int32) (hV : vc_X7_put M a1 a2 a3 a4 a5) : Met l yX7_put (Cond.code yX7_put cX7_put 6 (none) :: BG) ({ frames := 0, cells := 0, slots := 0, locals := 0 }) (va_Pc [.ref (ad 20), .int a1, .int a2, .int a3, .int a4, .int a5] (PW D cy ad L M sz)) (va_Qv (fun N => N = sp_X7_put M a1 a2 a3 a4 a5) (OW D cy ad L sz) (fA ad L sz)) 0 0 (fA ad L sz) := by
  refine q_start (by decide) (Nat.le_of_ble_eq_true rfl) (fun p e s m below meth c H locs ls hsz hx hb hr hlocks hml hown hB hK hE hC hl => ?_)
  subst hsz
  have hown : s.vm.findClass "MazeBoardModel" = some m.cls := hown
  have hl : lv_has ls 6 [(0, .ref (ad 20)), (1, .int a1), (2, .int a2), (3, .int a3), (4, .int a4), (5, .int a5)] := hl
  have J59 : ∀ (M6 : Mem) (x7 : Int32) (H : Heap) (locs : List Loc) (ls : Array Slot) (hT : sp_X7_put M a1 a2 a3 a4 a5 = sp_X7_put_B59 a1 M6 x7) (hV : vc_X7_put_B59 a1 M6 x7) (hC : Cx D cy ad R0 L (fA ad L s.heap.size) s M6 H locs) (hl : lv_has ls 6 []), W p l e ({ frames := 0, cells := 0, slots := 0, locals := 0 }) s m ([.ref (ad 20), .int a1, .int a2, .int a3, .int a4, .int a5] : List Value).toArray below meth c H locs 0 0 (MQ below (va_Qv (fun N => N = sp_X7_put M a1 a2 a3 a4 a5) (OW D cy ad L s.heap.size) (fA ad L s.heap.size)) ([.ref (ad 20), .int a1, .int a2, .int a3, .int a4, .int a5] : List Value).toArray s 0 0 (fA ad L s.heap.size)) (F0 m 59 ls [.int x7, .int a1, .ref (ad 29)]) := by
    intro M6 x7 H locs ls  hT hV hC hl
    have hT : sp_X7_put M a1 a2 a3 a4 a5 = sp_X7_put_n1 (wI M6 29 a1.toNatClampNeg x7) := hT
    have hV : vp_in a1 5 ∧ (x7 = 0 ∨ x7 = 1) := hV
    obtain ⟨w59, hV⟩ : vp_in a1 5 ∧ (x7 = 0 ∨ x7 = 1) := hV
    have z59 : x7 = 0 ∨ x7 = 1 := hV
    refine q_zast (v := x7) hx hb hK hC rfl (hL 29 (by decide) (by decide)) rfl w59 rfl (bo_v z59) dX7_put_59 (fun H locs hC => ?_)
    obtain ⟨M8, eM8⟩ : ∃ z : Mem, z = wI M6 29 a1.toNatClampNeg x7 := ⟨_, rfl⟩
    rw [← eM8] at hC
    have hT : sp_X7_put M a1 a2 a3 a4 a5 = sp_X7_put_n1 M8 := by rw [eM8]; exact hT
    exact q_retv hx hb hr hlocks hC hT.symm dX7_put_60
  have hT : sp_X7_put M a1 a2 a3 a4 a5 = sp_X7_put_n7 a1 a3 a4 a5 (wI M 23 a1.toNatClampNeg a2) := rfl
  have hV : vp_in a1 5 ∧ (vc_X7_put_n7 a1 a3 a4 a5 (wI M 23 a1.toNatClampNeg a2)) := hV
  refine lv_aload_n hx hb dX7_put_0 rfl (lv_at hl 0 rfl) ?_
  refine q_getr (T := TX7) hx hb hB uw_X7 hown hK hC rfl (hL 20 (by decide) (by decide)) rfl 16 (by decide) rfl rfl (hB _ mw_3_60) dX7_put_1 ?_
  refine lv_iload_n hx hb dX7_put_4 rfl (lv_at hl 1 rfl) ?_
  refine lv_iload_n hx hb dX7_put_5 rfl (lv_at hl 2 rfl) ?_
  obtain ⟨w6, hV⟩ : vp_in a1 5 ∧ (vc_X7_put_n7 a1 a3 a4 a5 (wI M 23 a1.toNatClampNeg a2)) := hV
  refine q_iast hx hb hK hC rfl (hL 23 (by decide) (by decide)) rfl w6 rfl dX7_put_6 (fun H locs hC => ?_)
  obtain ⟨M1, eM1⟩ : ∃ z : Mem, z = wI M 23 a1.toNatClampNeg a2 := ⟨_, rfl⟩
  rw [← eM1] at hC
  have hT : sp_X7_put M a1 a2 a3 a4 a5 = sp_X7_put_n7 a1 a3 a4 a5 M1 := by rw [eM1]; exact hT
  have hV : vc_X7_put_n7 a1 a3 a4 a5 M1 := by rw [eM1]; exact hV
  refine lv_aload_n hx hb dX7_put_7 rfl (lv_at hl 0 rfl) ?_
  refine q_getr (T := TX7) hx hb hB uw_X7 hown hK hC rfl (hL 20 (by decide) (by decide)) rfl 17 (by decide) rfl rfl (hB _ mw_3_61) dX7_put_8 ?_
  refine lv_iload_n hx hb dX7_put_11 rfl (lv_at hl 1 rfl) ?_
  refine lv_iload_n hx hb dX7_put_12 rfl (lv_at hl 3 rfl) ?_
  obtain ⟨w13, hV⟩ : vp_in a1 5 ∧ (vc_X7_put_n6 a1 a4 a5 (wI M1 24 a1.toNatClampNeg a3)) := hV
  refine q_iast hx hb hK hC rfl (hL 24 (by decide) (by decide)) rfl w13 rfl dX7_put_13 (fun H locs hC => ?_)
  obtain ⟨M2, eM2⟩ : ∃ z : Mem, z = wI M1 24 a1.toNatClampNeg a3 := ⟨_, rfl⟩
  rw [← eM2] at hC
  have hT : sp_X7_put M a1 a2 a3 a4 a5 = sp_X7_put_n6 a1 a4 a5 M2 := by rw [eM2]; exact hT
  have hV : vc_X7_put_n6 a1 a4 a5 M2 := by rw [eM2]; exact hV
  refine lv_aload_n hx hb dX7_put_14 rfl (lv_at hl 0 rfl) ?_
  refine q_getr (T := TX7) hx hb hB uw_X7 hown hK hC rfl (hL 20 (by decide) (by decide)) rfl 18 (by decide) rfl rfl (hB _ mw_3_62) dX7_put_15 ?_
  refine lv_iload_n hx hb dX7_put_18 rfl (lv_at hl 1 rfl) ?_
  refine lv_iload hx hb dX7_put_19 (lv_at hl 4 rfl) ?_
  obtain ⟨w21, hV⟩ : vp_in a1 5 ∧ (vc_X7_put_n5 a1 a5 (wI M2 25 a1.toNatClampNeg a4)) := hV
  refine q_iast hx hb hK hC rfl (hL 25 (by decide) (by decide)) rfl w21 rfl dX7_put_21 (fun H locs hC => ?_)
  obtain ⟨M3, eM3⟩ : ∃ z : Mem, z = wI M2 25 a1.toNatClampNeg a4 := ⟨_, rfl⟩
  rw [← eM3] at hC
  have hT : sp_X7_put M a1 a2 a3 a4 a5 = sp_X7_put_n5 a1 a5 M3 := by rw [eM3]; exact hT
  have hV : vc_X7_put_n5 a1 a5 M3 := by rw [eM3]; exact hV
  refine lv_aload_n hx hb dX7_put_22 rfl (lv_at hl 0 rfl) ?_
  refine q_getr (T := TX7) hx hb hB uw_X7 hown hK hC rfl (hL 20 (by decide) (by decide)) rfl 19 (by decide) rfl rfl (hB _ mw_3_63) dX7_put_23 ?_
  refine lv_iload_n hx hb dX7_put_26 rfl (lv_at hl 1 rfl) ?_
  refine lv_fconst0 hx hb dX7_put_27 ?_
  obtain ⟨w28, hV⟩ : vp_in a1 5 ∧ (vc_X7_put_n4 a1 a5 (wF M3 26 a1.toNatClampNeg FP.fconst0)) := hV
  refine q_fast hx hb hK hC rfl (hL 26 (by decide) (by decide)) rfl w28 rfl dX7_put_28 (fun H locs hC => ?_)
  obtain ⟨M4, eM4⟩ : ∃ z : Mem, z = wF M3 26 a1.toNatClampNeg FP.fconst0 := ⟨_, rfl⟩
  rw [← eM4] at hC
  have hT : sp_X7_put M a1 a2 a3 a4 a5 = sp_X7_put_n4 a1 a5 M4 := by rw [eM4]; exact hT
  have hV : vc_X7_put_n4 a1 a5 M4 := by rw [eM4]; exact hV
  refine lv_aload_n hx hb dX7_put_29 rfl (lv_at hl 0 rfl) ?_
  refine q_getr (T := TX7) hx hb hB uw_X7 hown hK hC rfl (hL 20 (by decide) (by decide)) rfl 20 (by decide) rfl rfl (hB _ mw_3_64) dX7_put_30 ?_
  refine lv_iload_n hx hb dX7_put_33 rfl (lv_at hl 1 rfl) ?_
  refine lv_iconst (v := 0) hx hb dX7_put_34 (by decide) ?_
  obtain ⟨w35, hV⟩ : vp_in a1 5 ∧ (vc_X7_put_n3 a1 a5 (wI M4 27 a1.toNatClampNeg 0)) := hV
  refine q_zast (v := 0) hx hb hK hC rfl (hL 27 (by decide) (by decide)) rfl w35 rfl (by decide) dX7_put_35 (fun H locs hC => ?_)
  obtain ⟨M5, eM5⟩ : ∃ z : Mem, z = wI M4 27 a1.toNatClampNeg 0 := ⟨_, rfl⟩
  rw [← eM5] at hC
  have hT : sp_X7_put M a1 a2 a3 a4 a5 = sp_X7_put_n3 a1 a5 M5 := by rw [eM5]; exact hT
  have hV : vc_X7_put_n3 a1 a5 M5 := by rw [eM5]; exact hV
  refine lv_aload_n hx hb dX7_put_36 rfl (lv_at hl 0 rfl) ?_
  refine q_getr (T := TX7) hx hb hB uw_X7 hown hK hC rfl (hL 20 (by decide) (by decide)) rfl 21 (by decide) rfl rfl (hB _ mw_3_65) dX7_put_37 ?_
  refine lv_iload_n hx hb dX7_put_40 rfl (lv_at hl 1 rfl) ?_
  refine lv_iload hx hb dX7_put_41 (lv_at hl 5 rfl) ?_
  obtain ⟨w43, hV⟩ : vp_in a1 5 ∧ (vc_X7_put_n2 a1 a5 (wI M5 28 a1.toNatClampNeg a5)) := hV
  refine q_iast hx hb hK hC rfl (hL 28 (by decide) (by decide)) rfl w43 rfl dX7_put_43 (fun H locs hC => ?_)
  obtain ⟨M6, eM6⟩ : ∃ z : Mem, z = wI M5 28 a1.toNatClampNeg a5 := ⟨_, rfl⟩
  rw [← eM6] at hC
  have hT : sp_X7_put M a1 a2 a3 a4 a5 = sp_X7_put_n2 a1 a5 M6 := by rw [eM6]; exact hT
  have hV : vc_X7_put_n2 a1 a5 M6 := by rw [eM6]; exact hV
  refine lv_aload_n hx hb dX7_put_44 rfl (lv_at hl 0 rfl) ?_
  refine q_getr (T := TX7) hx hb hB uw_X7 hown hK hC rfl (hL 20 (by decide) (by decide)) rfl 22 (by decide) rfl rfl (hB _ mw_3_66) dX7_put_45 ?_
  refine lv_iload_n hx hb dX7_put_48 rfl (lv_at hl 1 rfl) ?_
  refine lv_iload hx hb dX7_put_49 (lv_at hl 5 rfl) ?_
  refine lv_if_le (tgt := 58) hx hb dX7_put_51 (by decide) (fun c51 => ?_) (fun c51 => ?_)
  · have hT : sp_X7_put M a1 a2 a3 a4 a5 = sp_X7_put_B59 a1 M6 0 := hT.trans (if_pos c51)
    have hV : vc_X7_put_B59 a1 M6 0 := iteT hV c51
    refine lv_iconst (v := 0) hx hb dX7_put_58 (by decide) ?_
    exact J59 M6 0 _ _ _  hT hV hC (lv_sub hl [] rfl)
  · have hT : sp_X7_put M a1 a2 a3 a4 a5 = sp_X7_put_B59 a1 M6 1 := hT.trans (if_neg c51)
    have hV : vc_X7_put_B59 a1 M6 1 := iteF hV c51
    refine lv_iconst (v := 1) hx hb dX7_put_54 (by decide) ?_
    refine lv_goto (tgt := 59) hx hb dX7_put_55 (by decide) ?_
    exact J59 M6 1 _ _ _  hT hV hC (lv_sub hl [] rfl)
set_option maxHeartbeats 4000000 in
set_option maxRecDepth 100000 in
theorem c_X7_place (l : Launch) (D : va_G) (cy ad : Nat → Nat) (L : List Nat) (sz : Nat) (hL : lr 20 34 L) (M : Mem)  (hV : vc_X7_place M ) : Met l yX7_place (Cond.code yX7_place cX7_place 1 (none) :: BG) ({ frames := 1, cells := 0, slots := 0, locals := 25 }) (va_Pc [.ref (ad 20)] (PW D cy ad L M sz)) (va_Qv (fun N => N = sp_X7_place M) (OW D cy ad L sz) (fA ad L sz)) 0 0 (fA ad L sz) := by
  refine q_start (by decide) (Nat.le_of_ble_eq_true rfl) (fun p e s m below meth c H locs ls hsz hx hb hr hlocks hml hown hB hK hE hC hl => ?_)
  subst hsz
  have hown : s.vm.findClass "MazeBoardModel" = some m.cls := hown
  have hl : lv_has ls 1 [(0, .ref (ad 20))] := hl
  have hT : sp_X7_place M = sp_X7_place_n7 (sp_X7_put M 0 6 6 1 0) := rfl
  have hV : vc_X7_put M 0 6 6 1 0 ∧ (vc_X7_place_n7 (sp_X7_put M 0 6 6 1 0)) := hV
  refine lv_aload_n hx hb dX7_place_0 rfl (lv_at hl 0 rfl) ?_
  refine lv_iconst (v := 0) hx hb dX7_place_1 (by decide) ?_
  refine lv_bipush (v := 6) hx hb dX7_place_2 (by decide) ?_
  refine lv_bipush (v := 6) hx hb dX7_place_4 (by decide) ?_
  refine lv_iconst (v := 1) hx hb dX7_place_6 (by decide) ?_
  refine lv_iconst (v := 0) hx hb dX7_place_7 (by decide) ?_
  obtain ⟨v8, hV⟩ : vc_X7_put M 0 6 6 1 0 ∧ (vc_X7_place_n7 (sp_X7_put M 0 6 6 1 0)) := hV
  refine q_Cv (q_V (own := "MazeBoardModel") (y := yX7_put) (As := [.int 0, .int 6, .int 6, .int 1, .int 0]) (rest := []) ⟨hx, hb, hml, hown, hB⟩ hK hE hC (c_X7_put l D cy ad L H.size (hL.sub (by decide) (by decide)) M 0 6 6 1 0 v8) rfl (hL 20 (by decide) (by decide)) rfl mw_3_40 mw_3_42 mw_0_26 mw_1_7 mw_3_43 rfl yd_X7_put ⟨rfl, rfl⟩ ⟨Nat.le_of_ble_eq_true rfl, Nat.le_of_ble_eq_true rfl⟩ rfl hl.1 rfl (Nat.le_of_ble_eq_true rfl) dX7_place_8 ⟨Nat.le_refl _, Nat.le_refl _⟩) hC (fun M1 H locs eM1 hC => ?_)
  have hT : sp_X7_place M = sp_X7_place_n7 M1 := by rw [eM1]; exact hT
  have hV : vc_X7_place_n7 M1 := by rw [eM1]; exact hV
  refine lv_aload_n hx hb dX7_place_11 rfl (lv_at hl 0 rfl) ?_
  refine lv_iconst (v := 1) hx hb dX7_place_12 (by decide) ?_
  refine lv_bipush (v := 6) hx hb dX7_place_13 (by decide) ?_
  refine lv_iconst (v := 2) hx hb dX7_place_15 (by decide) ?_
  refine lv_iconst (v := 1) hx hb dX7_place_16 (by decide) ?_
  refine lv_iconst (v := 0) hx hb dX7_place_17 (by decide) ?_
  obtain ⟨v18, hV⟩ : vc_X7_put M1 1 6 2 1 0 ∧ (vc_X7_place_n6 (sp_X7_put M1 1 6 2 1 0)) := hV
  refine q_Cv (q_V (own := "MazeBoardModel") (y := yX7_put) (As := [.int 1, .int 6, .int 2, .int 1, .int 0]) (rest := []) ⟨hx, hb, hml, hown, hB⟩ hK hE hC (c_X7_put l D cy ad L H.size (hL.sub (by decide) (by decide)) M1 1 6 2 1 0 v18) rfl (hL 20 (by decide) (by decide)) rfl mw_3_40 mw_3_42 mw_0_26 mw_1_7 mw_3_43 rfl yd_X7_put ⟨rfl, rfl⟩ ⟨Nat.le_of_ble_eq_true rfl, Nat.le_of_ble_eq_true rfl⟩ rfl hl.1 rfl (Nat.le_of_ble_eq_true rfl) dX7_place_18 ⟨Nat.le_refl _, Nat.le_refl _⟩) hC (fun M2 H locs eM2 hC => ?_)
  have hT : sp_X7_place M = sp_X7_place_n6 M2 := by rw [eM2]; exact hT
  have hV : vc_X7_place_n6 M2 := by rw [eM2]; exact hV
  refine lv_aload_n hx hb dX7_place_21 rfl (lv_at hl 0 rfl) ?_
  refine lv_iconst (v := 2) hx hb dX7_place_22 (by decide) ?_
  refine lv_bipush (v := 6) hx hb dX7_place_23 (by decide) ?_
  refine lv_iconst (v := 4) hx hb dX7_place_25 (by decide) ?_
  refine lv_iconst (v := 0) hx hb dX7_place_26 (by decide) ?_
  refine lv_bipush (v := 40) hx hb dX7_place_27 (by decide) ?_
  obtain ⟨v29, hV⟩ : vc_X7_put M2 2 6 4 0 40 ∧ (vc_X7_place_n5 (sp_X7_put M2 2 6 4 0 40)) := hV
  refine q_Cv (q_V (own := "MazeBoardModel") (y := yX7_put) (As := [.int 2, .int 6, .int 4, .int 0, .int 40]) (rest := []) ⟨hx, hb, hml, hown, hB⟩ hK hE hC (c_X7_put l D cy ad L H.size (hL.sub (by decide) (by decide)) M2 2 6 4 0 40 v29) rfl (hL 20 (by decide) (by decide)) rfl mw_3_40 mw_3_42 mw_0_26 mw_1_7 mw_3_43 rfl yd_X7_put ⟨rfl, rfl⟩ ⟨Nat.le_of_ble_eq_true rfl, Nat.le_of_ble_eq_true rfl⟩ rfl hl.1 rfl (Nat.le_of_ble_eq_true rfl) dX7_place_29 ⟨Nat.le_refl _, Nat.le_refl _⟩) hC (fun M3 H locs eM3 hC => ?_)
  have hT : sp_X7_place M = sp_X7_place_n5 M3 := by rw [eM3]; exact hT
  have hV : vc_X7_place_n5 M3 := by rw [eM3]; exact hV
  refine lv_aload_n hx hb dX7_place_32 rfl (lv_at hl 0 rfl) ?_
  refine lv_iconst (v := 3) hx hb dX7_place_33 (by decide) ?_
  refine lv_iconst (v := 5) hx hb dX7_place_34 (by decide) ?_
  refine lv_iconst (v := 4) hx hb dX7_place_35 (by decide) ?_
  refine lv_iconst (v := 0) hx hb dX7_place_36 (by decide) ?_
  refine lv_bipush (v := 80) hx hb dX7_place_37 (by decide) ?_
  obtain ⟨v39, hV⟩ : vc_X7_put M3 3 5 4 0 80 ∧ (vc_X7_place_n4 (sp_X7_put M3 3 5 4 0 80)) := hV
  refine q_Cv (q_V (own := "MazeBoardModel") (y := yX7_put) (As := [.int 3, .int 5, .int 4, .int 0, .int 80]) (rest := []) ⟨hx, hb, hml, hown, hB⟩ hK hE hC (c_X7_put l D cy ad L H.size (hL.sub (by decide) (by decide)) M3 3 5 4 0 80 v39) rfl (hL 20 (by decide) (by decide)) rfl mw_3_40 mw_3_42 mw_0_26 mw_1_7 mw_3_43 rfl yd_X7_put ⟨rfl, rfl⟩ ⟨Nat.le_of_ble_eq_true rfl, Nat.le_of_ble_eq_true rfl⟩ rfl hl.1 rfl (Nat.le_of_ble_eq_true rfl) dX7_place_39 ⟨Nat.le_refl _, Nat.le_refl _⟩) hC (fun M4 H locs eM4 hC => ?_)
  have hT : sp_X7_place M = sp_X7_place_n4 M4 := by rw [eM4]; exact hT
  have hV : vc_X7_place_n4 M4 := by rw [eM4]; exact hV
  refine lv_aload_n hx hb dX7_place_42 rfl (lv_at hl 0 rfl) ?_
  refine lv_iconst (v := 4) hx hb dX7_place_43 (by decide) ?_
  refine lv_bipush (v := 7) hx hb dX7_place_44 (by decide) ?_
  refine lv_iconst (v := 4) hx hb dX7_place_46 (by decide) ?_
  refine lv_iconst (v := 0) hx hb dX7_place_47 (by decide) ?_
  refine lv_bipush (v := 120) hx hb dX7_place_48 (by decide) ?_
  have v50 : vc_X7_put M4 4 7 4 0 120 := hV
  refine q_Cv (q_V (own := "MazeBoardModel") (y := yX7_put) (As := [.int 4, .int 7, .int 4, .int 0, .int 120]) (rest := []) ⟨hx, hb, hml, hown, hB⟩ hK hE hC (c_X7_put l D cy ad L H.size (hL.sub (by decide) (by decide)) M4 4 7 4 0 120 v50) rfl (hL 20 (by decide) (by decide)) rfl mw_3_40 mw_3_42 mw_0_26 mw_1_7 mw_3_43 rfl yd_X7_put ⟨rfl, rfl⟩ ⟨Nat.le_of_ble_eq_true rfl, Nat.le_of_ble_eq_true rfl⟩ rfl hl.1 rfl (Nat.le_of_ble_eq_true rfl) dX7_place_50 ⟨Nat.le_refl _, Nat.le_refl _⟩) hC (fun M5 H locs eM5 hC => ?_)
  have hT : sp_X7_place M = sp_X7_place_n3 M5 := by rw [eM5]; exact hT
  refine lv_aload_n hx hb dX7_place_53 rfl (lv_at hl 0 rfl) ?_
  refine lv_iconst (v := 0) hx hb dX7_place_54 (by decide) ?_
  refine q_puti (T := TX7) hx hb hB uw_X7 tyX7 tyX7_ok nmX7 hown hK hC rfl (hL 20 (by decide) (by decide)) rfl 10 (by decide) rfl (hB _ mw_3_54) rfl rfl rfl rfl dX7_place_55 (fun H locs hC => ?_)
  obtain ⟨M6, eM6⟩ : ∃ z : Mem, z = wI M5 20 10 0 := ⟨_, rfl⟩
  rw [← eM6] at hC
  have hT : sp_X7_place M = sp_X7_place_n2 M6 := by rw [eM6]; exact hT
  refine lv_aload_n hx hb dX7_place_58 rfl (lv_at hl 0 rfl) ?_
  refine lv_iconst (v := 0) hx hb dX7_place_59 (by decide) ?_
  refine q_puti (T := TX7) hx hb hB uw_X7 tyX7 tyX7_ok nmX7 hown hK hC rfl (hL 20 (by decide) (by decide)) rfl 9 (by decide) rfl (hB _ mw_3_53) rfl rfl rfl rfl dX7_place_60 (fun H locs hC => ?_)
  obtain ⟨M7, eM7⟩ : ∃ z : Mem, z = wI M6 20 9 0 := ⟨_, rfl⟩
  rw [← eM7] at hC
  have hT : sp_X7_place M = sp_X7_place_n1 M7 := by rw [eM7]; exact hT
  exact q_retv hx hb hr hlocks hC hT.symm dX7_place_63
set_option maxHeartbeats 4000000 in
set_option maxRecDepth 100000 in
theorem c_X7_across (l : Launch) (D : va_G) (cy ad : Nat → Nat) (L : List Nat) (sz : Nat) (M : Mem) (a1 : Int32) : Met l yX7_across (Cond.code yX7_across cX7_across 1 (some .int) :: BG) ({ frames := 0, cells := 0, slots := 0, locals := 0 }) (va_Pc [.int a1] (PW D cy ad L M sz)) (va_Qi (fun r N => r = sp_X7_across a1 ∧ N = M) (OW D cy ad L sz) (fA ad L sz)) 0 0 (fA ad L sz) := by
  refine q_start (by decide) (Nat.le_of_ble_eq_true rfl) (fun p e s m below meth c H locs ls hsz hx hb hr hlocks hml hown hB hK hE hC hl => ?_)
  subst hsz
  have hown : s.vm.findClass "MazeBoardModel" = some m.cls := hown
  have hl : lv_has ls 1 [(0, .int a1)] := hl
  have J19 : ∀ (x1 : Int32) (H : Heap) (locs : List Loc) (ls : Array Slot) (hT : sp_X7_across a1 = sp_X7_across_B19 x1) (hC : Cx D cy ad R0 L (fA ad L s.heap.size) s M H locs) (hl : lv_has ls 1 []), W p l e ({ frames := 0, cells := 0, slots := 0, locals := 0 }) s m ([.int a1] : List Value).toArray below meth c H locs 0 0 (MQ below (va_Qi (fun r N => r = sp_X7_across a1 ∧ N = M) (OW D cy ad L s.heap.size) (fA ad L s.heap.size)) ([.int a1] : List Value).toArray s 0 0 (fA ad L s.heap.size)) (F0 m 19 ls [.int x1]) := by
    intro x1 H locs ls  hT hC hl
    have hT : sp_X7_across a1 = x1 := hT
    exact q_reti hx hb hr hlocks hC ⟨hT.symm, rfl⟩ dX7_across_19
  have hT : sp_X7_across a1 = if a1 = 1 then (sp_X7_across_B19 (-1)) else (if a1 = 3 then (sp_X7_across_B19 1) else (sp_X7_across_B19 0)) := rfl
  refine lv_iload_n hx hb dX7_across_0 rfl (lv_at hl 0 rfl) ?_
  refine lv_iconst (v := 1) hx hb dX7_across_1 (by decide) ?_
  refine lv_icmp_ne (tgt := 9) hx hb dX7_across_2 (by decide) (fun c2 => ?_) (fun c2 => ?_)
  · have hT : sp_X7_across a1 = if a1 = 3 then (sp_X7_across_B19 1) else (sp_X7_across_B19 0) := hT.trans (if_neg c2)
    refine lv_iload_n hx hb dX7_across_9 rfl (lv_at hl 0 rfl) ?_
    refine lv_iconst (v := 3) hx hb dX7_across_10 (by decide) ?_
    refine lv_icmp_ne (tgt := 18) hx hb dX7_across_11 (by decide) (fun c11 => ?_) (fun c11 => ?_)
    · have hT : sp_X7_across a1 = sp_X7_across_B19 0 := hT.trans (if_neg c11)
      refine lv_iconst (v := 0) hx hb dX7_across_18 (by decide) ?_
      exact J19 0 _ _ _  hT hC (lv_sub hl [] rfl)
    · have hT : sp_X7_across a1 = sp_X7_across_B19 1 := hT.trans (if_pos c11)
      refine lv_iconst (v := 1) hx hb dX7_across_14 (by decide) ?_
      refine lv_goto (tgt := 19) hx hb dX7_across_15 (by decide) ?_
      exact J19 1 _ _ _  hT hC (lv_sub hl [] rfl)
  · have hT : sp_X7_across a1 = sp_X7_across_B19 (-1) := hT.trans (if_pos c2)
    refine lv_iconst (v := (-1)) hx hb dX7_across_5 (by decide) ?_
    refine lv_goto (tgt := 19) hx hb dX7_across_6 (by decide) ?_
    exact J19 (-1) _ _ _  hT hC (lv_sub hl [] rfl)
set_option maxHeartbeats 4000000 in
set_option maxRecDepth 100000 in
theorem c_X7_down (l : Launch) (D : va_G) (cy ad : Nat → Nat) (L : List Nat) (sz : Nat) (M : Mem) (a1 : Int32) : Met l yX7_down (Cond.code yX7_down cX7_down 1 (some .int) :: BG) ({ frames := 0, cells := 0, slots := 0, locals := 0 }) (va_Pc [.int a1] (PW D cy ad L M sz)) (va_Qi (fun r N => r = sp_X7_down a1 ∧ N = M) (OW D cy ad L sz) (fA ad L sz)) 0 0 (fA ad L sz) := by
  refine q_start (by decide) (Nat.le_of_ble_eq_true rfl) (fun p e s m below meth c H locs ls hsz hx hb hr hlocks hml hown hB hK hE hC hl => ?_)
  subst hsz
  have hown : s.vm.findClass "MazeBoardModel" = some m.cls := hown
  have hl : lv_has ls 1 [(0, .int a1)] := hl
  have J18 : ∀ (x1 : Int32) (H : Heap) (locs : List Loc) (ls : Array Slot) (hT : sp_X7_down a1 = sp_X7_down_B18 x1) (hC : Cx D cy ad R0 L (fA ad L s.heap.size) s M H locs) (hl : lv_has ls 1 []), W p l e ({ frames := 0, cells := 0, slots := 0, locals := 0 }) s m ([.int a1] : List Value).toArray below meth c H locs 0 0 (MQ below (va_Qi (fun r N => r = sp_X7_down a1 ∧ N = M) (OW D cy ad L s.heap.size) (fA ad L s.heap.size)) ([.int a1] : List Value).toArray s 0 0 (fA ad L s.heap.size)) (F0 m 18 ls [.int x1]) := by
    intro x1 H locs ls  hT hC hl
    have hT : sp_X7_down a1 = x1 := hT
    exact q_reti hx hb hr hlocks hC ⟨hT.symm, rfl⟩ dX7_down_18
  have hT : sp_X7_down a1 = if a1 = 0 then (sp_X7_down_B18 (-1)) else (if a1 = 2 then (sp_X7_down_B18 1) else (sp_X7_down_B18 0)) := rfl
  refine lv_iload_n hx hb dX7_down_0 rfl (lv_at hl 0 rfl) ?_
  refine lv_if_ne (tgt := 8) hx hb dX7_down_1 (by decide) (fun c1 => ?_) (fun c1 => ?_)
  · have hT : sp_X7_down a1 = if a1 = 2 then (sp_X7_down_B18 1) else (sp_X7_down_B18 0) := hT.trans (if_neg c1)
    refine lv_iload_n hx hb dX7_down_8 rfl (lv_at hl 0 rfl) ?_
    refine lv_iconst (v := 2) hx hb dX7_down_9 (by decide) ?_
    refine lv_icmp_ne (tgt := 17) hx hb dX7_down_10 (by decide) (fun c10 => ?_) (fun c10 => ?_)
    · have hT : sp_X7_down a1 = sp_X7_down_B18 0 := hT.trans (if_neg c10)
      refine lv_iconst (v := 0) hx hb dX7_down_17 (by decide) ?_
      exact J18 0 _ _ _  hT hC (lv_sub hl [] rfl)
    · have hT : sp_X7_down a1 = sp_X7_down_B18 1 := hT.trans (if_pos c10)
      refine lv_iconst (v := 1) hx hb dX7_down_13 (by decide) ?_
      refine lv_goto (tgt := 18) hx hb dX7_down_14 (by decide) ?_
      exact J18 1 _ _ _  hT hC (lv_sub hl [] rfl)
  · have hT : sp_X7_down a1 = sp_X7_down_B18 (-1) := hT.trans (if_pos c1)
    refine lv_iconst (v := (-1)) hx hb dX7_down_4 (by decide) ?_
    refine lv_goto (tgt := 18) hx hb dX7_down_5 (by decide) ?_
    exact J18 (-1) _ _ _  hT hC (lv_sub hl [] rfl)
