set_option maxHeartbeats 1000000 in
set_option maxRecDepth 100000 in
theorem c_X0_init (l : Launch) (D : va_G) (ws : va_W) (h0 sz : Nat) : Met l yX0_init (Cond.code yX0_init cX0_init 1 none :: BG) ({ frames := 1, cells := 0, slots := 0, locals := 12 }) (va_Pc [.ref h0] (PX D ws sz)) (va_Qv (fun _ : Unit => True) (fun _ t => va_P D vwCl ws t.heap ∧ va_D (va_A ws sz) ws) (va_A ws sz)) 0 0 (va_A ws sz) := by
  refine x_start (by decide) (Nat.le_of_ble_eq_true rfl) (fun p e s m below meth c A ls hAe hsz hx hb hr hlocks hml hown hin hB hP hK hD hE hAO hA hS hl => ?_)
  subst hsz
  have hown : s.vm.findClass "MazeBoard$Actor" = some m.cls := hown
  have hin : meth.name = "<init>" := hin
  have hl : lv_has ls 1 [(0, .ref h0)] := hl
  refine lv_aload_n hx hb dX0_init_0 rfl (lv_at hl 0 rfl) ?_
  refine W.objInit hx hb hown (hB _ mw_1_46) (hB _ mw_1_16) (hB _ mw_1_17) rfl (by rw [hml]; exact hl.1) rfl dX0_init_1 (Nat.le_of_ble_eq_true rfl) (Nat.le_of_ble_eq_true rfl) ?_
  refine W.eq (g2 := F0 m 4 ls []) rfl ?_
  subst hAe
  exact W.vret hx hb hr (fun t ht hW => ⟨⟨(), rfl, trivial, by rw [ht]; exact hP, hD⟩, hS.F ht⟩) hS.2.2 dX0_init_4 hlocks

set_option maxHeartbeats 1000000 in
set_option maxRecDepth 100000 in
theorem c_X5_init (l : Launch) (D : va_G) (ws : va_W) (h0 sz : Nat) : Met l yX5_init (Cond.code yX5_init cX5_init 1 none :: BG) ({ frames := 1, cells := 0, slots := 0, locals := 12 }) (va_Pc [.ref h0] (PX D ws sz)) (va_Qv (fun _ : Unit => True) (fun _ t => va_P D vwCl ws t.heap ∧ va_D (va_A ws sz) ws) (va_A ws sz)) 0 0 (va_A ws sz) := by
  refine x_start (by decide) (Nat.le_of_ble_eq_true rfl) (fun p e s m below meth c A ls hAe hsz hx hb hr hlocks hml hown hin hB hP hK hD hE hAO hA hS hl => ?_)
  subst hsz
  have hown : s.vm.findClass "MazeBoard$Voice" = some m.cls := hown
  have hin : meth.name = "<init>" := hin
  have hl : lv_has ls 1 [(0, .ref h0)] := hl
  refine lv_aload_n hx hb dX5_init_0 rfl (lv_at hl 0 rfl) ?_
  refine W.objInit hx hb hown (hB _ mw_1_202) (hB _ mw_1_16) (hB _ mw_1_17) rfl (by rw [hml]; exact hl.1) rfl dX5_init_1 (Nat.le_of_ble_eq_true rfl) (Nat.le_of_ble_eq_true rfl) ?_
  refine W.eq (g2 := F0 m 4 ls []) rfl ?_
  subst hAe
  exact W.vret hx hb hr (fun t ht hW => ⟨⟨(), rfl, trivial, by rw [ht]; exact hP, hD⟩, hS.F ht⟩) hS.2.2 dX5_init_4 hlocks

set_option maxHeartbeats 1000000 in
set_option maxRecDepth 100000 in
theorem c_X2_init (l : Launch) (D : va_G) (h0 sz : Nat) : Met l yX2_init (Cond.code yX2_init cX2_init 1 none :: BG) ({ frames := 1, cells := 1, slots := 117, locals := 20 }) (va_Pc [.ref h0] (PX D [(h0, .inr (2, [.null, .int 0]))] sz)) (va_Qv (fun _ : Nat × Nat => True) (fun u t => va_P D vwCl [(h0, .inr (2, [.ref u.1, .int 0])), (u.1, .inl (u.2, 117, .inl (fun _ => 0)))] t.heap ∧ va_K D vwCl [(u.2, .byte)] t ∧ va_D (va_A [(h0, .inr (2, [.null, .int 0]))] sz) [(h0, .inr (2, [.ref u.1, .int 0])), (u.1, .inl (u.2, 117, .inl (fun _ => 0)))]) (va_A [(h0, .inr (2, [.null, .int 0]))] sz)) 1 117 (va_A [(h0, .inr (2, [.null, .int 0]))] sz) := by
  refine x_start (by decide) (Nat.le_of_ble_eq_true rfl) (fun p e s m below meth c A ls hAe hsz hx hb hr hlocks hml hown hin hB hP hK hD hE hAO hA hS hl => ?_)
  subst hsz
  have hown : s.vm.findClass "MazeBoard$Maze" = some m.cls := hown
  have hin : meth.name = "<init>" := hin
  have hl : lv_has ls 1 [(0, .ref h0)] := hl
  refine lv_aload_n hx hb dX2_init_0 rfl (lv_at hl 0 rfl) ?_
  refine W.objInit hx hb hown (hB _ mw_1_29) (hB _ mw_1_16) (hB _ mw_1_17) rfl (by rw [hml]; exact hl.1) rfl dX2_init_1 (Nat.le_of_ble_eq_true rfl) (Nat.le_of_ble_eq_true rfl) ?_
  refine W.eq (g2 := F0 m 4 ls []) rfl ?_
  refine lv_aload_n hx hb dX2_init_4 rfl (lv_at hl 0 rfl) ?_
  refine lv_bipush (v := 117) hx hb dX2_init_5 (by decide) ?_
  refine va_newa (atype := .byte) hx hb (hB _ mw_1_39) (ty := .byte) rfl hK hP hD hS hA (n := 117) (N' := 117) (a0 := (117, .inl (fun _ => 0))) (fun cA => rfl) (by decide) (by decide) (by decide) (Nat.le_of_ble_eq_true rfl) (Nat.le_of_ble_eq_true rfl) dX2_init_7 (fun q7_5 k7_5 H hK hP hD hS => ?_)
  have hK : va_K D vwCl [(k7_5, .byte)] s := hK
  have hP : va_P D vwCl ([(h0, .inr (2, [.null, .int 0])), (q7_5, .inl (k7_5, 117, .inl (fun _ => 0)))]) H := hP
  have hD : va_D A ([(h0, .inr (2, [.null, .int 0])), (q7_5, .inl (k7_5, 117, .inl (fun _ => 0)))]) := hD
  refine va_putF (D := D) (ci := 2) (v := .ref q7_5) (ty := tyX2 0) (C := RX2) (T := TX2) (N := 2) hx hb hB uw_X2 tyX2 tyX2_ok nmX2 hown hK hP hD hS 0 rfl rfl 0 (by decide) (hB _ mw_1_30) (fun _ h9 => h9) rfl hin rfl (tyX2_ok 0 (by decide)) rfl rfl (Nat.le_of_ble_eq_true rfl) dX2_init_9 (fun H locs hP hD hS => ?_)
  have hP : va_P D vwCl ([(h0, .inr (2, [.ref q7_5, .int 0])), (q7_5, .inl (k7_5, 117, .inl (fun _ => 0)))]) H := hP
  have hD : va_D A ([(h0, .inr (2, [.ref q7_5, .int 0])), (q7_5, .inl (k7_5, 117, .inl (fun _ => 0)))]) := hD
  refine W.widen (k := 1) (n := 117) (Nat.le_of_ble_eq_true rfl) (Nat.le_of_ble_eq_true rfl) ?_
  subst hAe
  exact W.vret hx hb hr (fun t ht hW => ⟨⟨(q7_5, k7_5), rfl, trivial, by rw [ht]; exact hP, va_K.moved hW.alike hK, hD⟩, hS.F ht⟩) hS.2.2 dX2_init_12 hlocks

set_option maxHeartbeats 1000000 in
set_option maxRecDepth 100000 in
theorem c_X4_init (l : Launch) (D : va_G) (h0 sz : Nat) : Met l yX4_init (Cond.code yX4_init cX4_init 2 none :: BG) ({ frames := 2, cells := 4, slots := 12, locals := 40 }) (va_Pc [.ref h0] (PX D [(h0, .inr (3, [.null]))] sz)) (va_Qv (fun u : (Nat → Nat) × (Nat → Nat) => u.1 10 = h0) (fun u t => va_P D vwCl (wl u.2 u.1 R0 M00 [10, 11, 12, 13, 14]) t.heap ∧ KK D u.2 [10, 11, 12, 13, 14] t ∧ va_D (va_A [(h0, .inr (3, [.null]))] sz) (wl u.2 u.1 R0 M00 [10, 11, 12, 13, 14])) (va_A [(h0, .inr (3, [.null]))] sz)) 4 12 (va_A [(h0, .inr (3, [.null]))] sz) := by
  refine x_start (by decide) (Nat.le_of_ble_eq_true rfl) (fun p e s m below meth c A ls hAe hsz hx hb hr hlocks hml hown hin hB hP hK hD hE hAO hA hS hl => ?_)
  subst hsz
  have hown : s.vm.findClass "MazeBoard$Speaker" = some m.cls := hown
  have hin : meth.name = "<init>" := hin
  have hl : lv_has ls 2 [(0, .ref h0)] := hl
  refine lv_aload_n hx hb dX4_init_0 rfl (lv_at hl 0 rfl) ?_
  refine W.objInit hx hb hown (hB _ mw_1_195) (hB _ mw_1_16) (hB _ mw_1_17) rfl (by rw [hml]; exact hl.1) rfl dX4_init_1 (Nat.le_of_ble_eq_true rfl) (Nat.le_of_ble_eq_true rfl) ?_
  refine W.eq (g2 := F0 m 4 ls []) rfl ?_
  refine lv_aload_n hx hb dX4_init_4 rfl (lv_at hl 0 rfl) ?_
  refine lv_iconst (v := 3) hx hb dX4_init_5 (by decide) ?_
  refine va_newq hx hb hown (hB _ mw_1_196) hAO.2 hK hP hD hS hA (n := 3) (N' := 3) (by decide) (by decide) (by decide) (Nat.le_of_ble_eq_true rfl) (Nat.le_of_ble_eq_true rfl) dX4_init_6 (fun q6_5 k6_5 H hK hP hD hS => ?_)
  have hK : va_K D vwCl [(k6_5, .object "MazeBoard$Voice")] s := hK
  have hP : va_P D vwCl ([(h0, .inr (3, [.null])), (q6_5, .inl (k6_5, 3, .inr (.inr (.inr (.inr (fun _ => none))))))]) H := hP
  have hD : va_D A ([(h0, .inr (3, [.null])), (q6_5, .inl (k6_5, 3, .inr (.inr (.inr (.inr (fun _ => none))))))]) := hD
  refine va_putF (D := D) (ci := 3) (v := .ref q6_5) (ty := tyX4 0) (C := RX4) (T := TX4) (N := 1) hx hb hB uw_X4 tyX4 tyX4_ok nmX4 hown hK hP hD hS 0 rfl rfl 0 (by decide) (hB _ mw_1_214) (fun _ h9 => h9) rfl hin rfl (tyX4_ok 0 (by decide)) rfl rfl (Nat.le_of_ble_eq_true rfl) dX4_init_9 (fun H locs hP hD hS => ?_)
  have hP : va_P D vwCl ([(h0, .inr (3, [.ref q6_5])), (q6_5, .inl (k6_5, 3, .inr (.inr (.inr (.inr (fun _ => none))))))]) H := hP
  have hD : va_D A ([(h0, .inr (3, [.ref q6_5])), (q6_5, .inl (k6_5, 3, .inr (.inr (.inr (.inr (fun _ => none))))))]) := hD
  refine lv_iconst (v := 0) hx hb dX4_init_12 (by decide) ?_
  refine lv_istore_n (lv' := [(1, .int 0), (0, .ref h0)]) hx hb dX4_init_13 rfl hl (by decide) rfl (fun ls hl => ?_)
  refine lv_iload_n hx hb dX4_init_14 rfl (lv_at hl 0 rfl) ?_
  refine lv_iconst (v := 3) hx hb dX4_init_15 (by decide) ?_
  refine lv_icmp_ge (tgt := 38) hx hb dX4_init_16 (by decide) (fun z => absurd z (by decide)) (fun _ => ?_)
  refine lv_aload_n hx hb dX4_init_19 rfl (lv_at hl 1 rfl) ?_
  refine va_get (D := D) (ci := 3) (v := .ref q6_5) (C := RX4) (T := TX4) (N := 1) hx hb hB uw_X4 hown hK hP 0 rfl rfl 0 (by decide) (hB _ mw_1_214) (fun _ h9 => h9) rfl dX4_init_20 ?_
  refine lv_iload_n hx hb dX4_init_23 rfl (lv_at hl 0 rfl) ?_
  refine va_new (ci := 4) (fs := [.int 0, .int 0, .float 0]) (C := RX5) (T := TX5) (N := 3) hx hb hB uw_X5 tyX5 tyX5_ok hown (hB _ mw_1_196) (hB _ mw_1_198) (hB _ mw_1_6) hK hP hD hS hA rfl (fun j hj => by rcases (show j = 0 ∨ j = 1 ∨ j = 2 by omega) with rfl | rfl | rfl <;> rfl) (Nat.le_of_ble_eq_true rfl) (Nat.le_of_ble_eq_true rfl) dX4_init_24 (fun q24_15 H hP hD hS => ?_)
  have hP : va_P D vwCl ([(h0, .inr (3, [.ref q6_5])), (q6_5, .inl (k6_5, 3, .inr (.inr (.inr (.inr (fun _ => none)))))), (q24_15, .inr (4, [.int 0, .int 0, .float 0]))]) H := hP
  have hD : va_D A ([(h0, .inr (3, [.ref q6_5])), (q6_5, .inl (k6_5, 3, .inr (.inr (.inr (.inr (fun _ => none)))))), (q24_15, .inr (4, [.int 0, .int 0, .float 0]))]) := hD
  refine lv_dup hx hb dX4_init_27 rfl ?_
  have hPc := hP.sub (ws' := [(q24_15, .inr (4, [.int 0, .int 0, .float 0]))]) [2] rfl
  have hDc := hD.sub (ws' := [(q24_15, .inr (4, [.int 0, .int 0, .float 0]))]) [2] (by decide) rfl
  have hKc := hK.sub (tys' := []) [] rfl
  have hFc := va_free (wc := [(q24_15, .inr (4, [.int 0, .int 0, .float 0]))]) hD hS hA [2] rfl
  refine va_callv (va_runIN (As := []) (rest := [.ref q24_15, .int 0, .ref q6_5]) ⟨hx, hb, hml, hown, hB⟩ (c_X5_init l D [(q24_15, .inr (4, [.int 0, .int 0, .float 0]))] q24_15 H.size) ⟨va_cnB 0 hB (gd_C (fun _ h => h) mw_1_201) rfl rfl rfl (nw_X4_17 hE.2) (hB _ mw_1_6) yd_X5_init ⟨Nat.le_of_ble_eq_true rfl, Nat.le_of_ble_eq_true rfl⟩, rfl, hB _ mw_1_200⟩ ⟨PX_blind, fun U hU hW => ⟨rfl, PX_call hPc hDc hKc hE hAO hS hFc hU hW⟩⟩ rfl rfl hl.1 rfl (lv_room (Nat.le_of_ble_eq_true rfl)) dX4_init_28 ⟨Nat.le_of_ble_eq_true rfl, Nat.le_of_ble_eq_true rfl⟩) hS (fun q _ h => hFc q h) hFc (fun u t H1 locs ht hvm hp hQ hz1 hk1 hS => ?_)
  obtain ⟨hP1, hD1⟩ := hQ
  rw [ht] at hP1
  obtain ⟨hP, hD⟩ := va_join (wr := [(h0, .inr (3, [.ref q6_5])), (q6_5, .inl (k6_5, 3, .inr (.inr (.inr (.inr (fun _ => none))))))]) (w1 := [(q24_15, .inr (4, [.int 0, .int 0, .float 0]))]) hP hD [2] [0, 1] rfl rfl (by decide) (by decide) hk1 hFc hP1 hD1
  generalize H1 = H at hP hS ⊢
  have hP : va_P D vwCl ([(h0, .inr (3, [.ref q6_5])), (q6_5, .inl (k6_5, 3, .inr (.inr (.inr (.inr (fun _ => none)))))), (q24_15, .inr (4, [.int 0, .int 0, .float 0]))]) H := hP
  have hD : va_D A ([(h0, .inr (3, [.ref q6_5])), (q6_5, .inl (k6_5, 3, .inr (.inr (.inr (.inr (fun _ => none)))))), (q24_15, .inr (4, [.int 0, .int 0, .float 0]))]) := hD
  refine va_astq (D := D) hx hb hK hP hD hS 1 0 2 4 rfl rfl rfl rfl (by unfold vp_in; decide) dX4_init_31 (fun H locs hP hD hS => ?_)
  have hP : va_P D vwCl ([(h0, .inr (3, [.ref q6_5])), (q6_5, .inl (k6_5, 3, .inr (.inr (.inr (.inr (va_up (fun _ => none) 0 (some q24_15))))))), (q24_15, .inr (4, [.int 0, .int 0, .float 0]))]) H := hP
  have hD : va_D A ([(h0, .inr (3, [.ref q6_5])), (q6_5, .inl (k6_5, 3, .inr (.inr (.inr (.inr (va_up (fun _ => none) 0 (some q24_15))))))), (q24_15, .inr (4, [.int 0, .int 0, .float 0]))]) := hD
  refine lv_iinc (v := 1) (lv' := [(1, .int 1), (0, .ref h0)]) hx hb dX4_init_32 hl (k := 0) rfl (by decide) (by decide) rfl (fun ls hl => ?_)
  refine lv_goto (tgt := 14) hx hb dX4_init_35 (by decide) ?_
  refine lv_iload_n hx hb dX4_init_14 rfl (lv_at hl 0 rfl) ?_
  refine lv_iconst (v := 3) hx hb dX4_init_15 (by decide) ?_
  refine lv_icmp_ge (tgt := 38) hx hb dX4_init_16 (by decide) (fun z => absurd z (by decide)) (fun _ => ?_)
  refine lv_aload_n hx hb dX4_init_19 rfl (lv_at hl 1 rfl) ?_
  refine va_get (D := D) (ci := 3) (v := .ref q6_5) (C := RX4) (T := TX4) (N := 1) hx hb hB uw_X4 hown hK hP 0 rfl rfl 0 (by decide) (hB _ mw_1_214) (fun _ h9 => h9) rfl dX4_init_20 ?_
  refine lv_iload_n hx hb dX4_init_23 rfl (lv_at hl 0 rfl) ?_
  refine va_new (ci := 4) (fs := [.int 0, .int 0, .float 0]) (C := RX5) (T := TX5) (N := 3) hx hb hB uw_X5 tyX5 tyX5_ok hown (hB _ mw_1_196) (hB _ mw_1_198) (hB _ mw_1_6) hK hP hD hS hA rfl (fun j hj => by rcases (show j = 0 ∨ j = 1 ∨ j = 2 by omega) with rfl | rfl | rfl <;> rfl) (Nat.le_of_ble_eq_true rfl) (Nat.le_of_ble_eq_true rfl) dX4_init_24 (fun q24_27 H hP hD hS => ?_)
  have hP : va_P D vwCl ([(h0, .inr (3, [.ref q6_5])), (q6_5, .inl (k6_5, 3, .inr (.inr (.inr (.inr (va_up (fun _ => none) 0 (some q24_15))))))), (q24_15, .inr (4, [.int 0, .int 0, .float 0])), (q24_27, .inr (4, [.int 0, .int 0, .float 0]))]) H := hP
  have hD : va_D A ([(h0, .inr (3, [.ref q6_5])), (q6_5, .inl (k6_5, 3, .inr (.inr (.inr (.inr (va_up (fun _ => none) 0 (some q24_15))))))), (q24_15, .inr (4, [.int 0, .int 0, .float 0])), (q24_27, .inr (4, [.int 0, .int 0, .float 0]))]) := hD
  refine lv_dup hx hb dX4_init_27 rfl ?_
  have hPc := hP.sub (ws' := [(q24_27, .inr (4, [.int 0, .int 0, .float 0]))]) [3] rfl
  have hDc := hD.sub (ws' := [(q24_27, .inr (4, [.int 0, .int 0, .float 0]))]) [3] (by decide) rfl
  have hKc := hK.sub (tys' := []) [] rfl
  have hFc := va_free (wc := [(q24_27, .inr (4, [.int 0, .int 0, .float 0]))]) hD hS hA [3] rfl
  refine va_callv (va_runIN (As := []) (rest := [.ref q24_27, .int 1, .ref q6_5]) ⟨hx, hb, hml, hown, hB⟩ (c_X5_init l D [(q24_27, .inr (4, [.int 0, .int 0, .float 0]))] q24_27 H.size) ⟨va_cnB 0 hB (gd_C (fun _ h => h) mw_1_201) rfl rfl rfl (nw_X4_17 hE.2) (hB _ mw_1_6) yd_X5_init ⟨Nat.le_of_ble_eq_true rfl, Nat.le_of_ble_eq_true rfl⟩, rfl, hB _ mw_1_200⟩ ⟨PX_blind, fun U hU hW => ⟨rfl, PX_call hPc hDc hKc hE hAO hS hFc hU hW⟩⟩ rfl rfl hl.1 rfl (lv_room (Nat.le_of_ble_eq_true rfl)) dX4_init_28 ⟨Nat.le_of_ble_eq_true rfl, Nat.le_of_ble_eq_true rfl⟩) hS (fun q _ h => hFc q h) hFc (fun u t H1 locs ht hvm hp hQ hz1 hk1 hS => ?_)
  obtain ⟨hP1, hD1⟩ := hQ
  rw [ht] at hP1
  obtain ⟨hP, hD⟩ := va_join (wr := [(h0, .inr (3, [.ref q6_5])), (q6_5, .inl (k6_5, 3, .inr (.inr (.inr (.inr (va_up (fun _ => none) 0 (some q24_15))))))), (q24_15, .inr (4, [.int 0, .int 0, .float 0]))]) (w1 := [(q24_27, .inr (4, [.int 0, .int 0, .float 0]))]) hP hD [3] [0, 1, 2] rfl rfl (by decide) (by decide) hk1 hFc hP1 hD1
  generalize H1 = H at hP hS ⊢
  have hP : va_P D vwCl ([(h0, .inr (3, [.ref q6_5])), (q6_5, .inl (k6_5, 3, .inr (.inr (.inr (.inr (va_up (fun _ => none) 0 (some q24_15))))))), (q24_15, .inr (4, [.int 0, .int 0, .float 0])), (q24_27, .inr (4, [.int 0, .int 0, .float 0]))]) H := hP
  have hD : va_D A ([(h0, .inr (3, [.ref q6_5])), (q6_5, .inl (k6_5, 3, .inr (.inr (.inr (.inr (va_up (fun _ => none) 0 (some q24_15))))))), (q24_15, .inr (4, [.int 0, .int 0, .float 0])), (q24_27, .inr (4, [.int 0, .int 0, .float 0]))]) := hD
  refine va_astq (D := D) hx hb hK hP hD hS 1 0 3 4 rfl rfl rfl rfl (by unfold vp_in; decide) dX4_init_31 (fun H locs hP hD hS => ?_)
  have hP : va_P D vwCl ([(h0, .inr (3, [.ref q6_5])), (q6_5, .inl (k6_5, 3, .inr (.inr (.inr (.inr (va_up (va_up (fun _ => none) 0 (some q24_15)) 1 (some q24_27))))))), (q24_15, .inr (4, [.int 0, .int 0, .float 0])), (q24_27, .inr (4, [.int 0, .int 0, .float 0]))]) H := hP
  have hD : va_D A ([(h0, .inr (3, [.ref q6_5])), (q6_5, .inl (k6_5, 3, .inr (.inr (.inr (.inr (va_up (va_up (fun _ => none) 0 (some q24_15)) 1 (some q24_27))))))), (q24_15, .inr (4, [.int 0, .int 0, .float 0])), (q24_27, .inr (4, [.int 0, .int 0, .float 0]))]) := hD
  refine lv_iinc (v := 2) (lv' := [(1, .int 2), (0, .ref h0)]) hx hb dX4_init_32 hl (k := 0) rfl (by decide) (by decide) rfl (fun ls hl => ?_)
  refine lv_goto (tgt := 14) hx hb dX4_init_35 (by decide) ?_
  refine lv_iload_n hx hb dX4_init_14 rfl (lv_at hl 0 rfl) ?_
  refine lv_iconst (v := 3) hx hb dX4_init_15 (by decide) ?_
  refine lv_icmp_ge (tgt := 38) hx hb dX4_init_16 (by decide) (fun z => absurd z (by decide)) (fun _ => ?_)
  refine lv_aload_n hx hb dX4_init_19 rfl (lv_at hl 1 rfl) ?_
  refine va_get (D := D) (ci := 3) (v := .ref q6_5) (C := RX4) (T := TX4) (N := 1) hx hb hB uw_X4 hown hK hP 0 rfl rfl 0 (by decide) (hB _ mw_1_214) (fun _ h9 => h9) rfl dX4_init_20 ?_
  refine lv_iload_n hx hb dX4_init_23 rfl (lv_at hl 0 rfl) ?_
  refine va_new (ci := 4) (fs := [.int 0, .int 0, .float 0]) (C := RX5) (T := TX5) (N := 3) hx hb hB uw_X5 tyX5 tyX5_ok hown (hB _ mw_1_196) (hB _ mw_1_198) (hB _ mw_1_6) hK hP hD hS hA rfl (fun j hj => by rcases (show j = 0 ∨ j = 1 ∨ j = 2 by omega) with rfl | rfl | rfl <;> rfl) (Nat.le_of_ble_eq_true rfl) (Nat.le_of_ble_eq_true rfl) dX4_init_24 (fun q24_39 H hP hD hS => ?_)
  have hP : va_P D vwCl ([(h0, .inr (3, [.ref q6_5])), (q6_5, .inl (k6_5, 3, .inr (.inr (.inr (.inr (va_up (va_up (fun _ => none) 0 (some q24_15)) 1 (some q24_27))))))), (q24_15, .inr (4, [.int 0, .int 0, .float 0])), (q24_27, .inr (4, [.int 0, .int 0, .float 0])), (q24_39, .inr (4, [.int 0, .int 0, .float 0]))]) H := hP
  have hD : va_D A ([(h0, .inr (3, [.ref q6_5])), (q6_5, .inl (k6_5, 3, .inr (.inr (.inr (.inr (va_up (va_up (fun _ => none) 0 (some q24_15)) 1 (some q24_27))))))), (q24_15, .inr (4, [.int 0, .int 0, .float 0])), (q24_27, .inr (4, [.int 0, .int 0, .float 0])), (q24_39, .inr (4, [.int 0, .int 0, .float 0]))]) := hD
  refine lv_dup hx hb dX4_init_27 rfl ?_
  have hPc := hP.sub (ws' := [(q24_39, .inr (4, [.int 0, .int 0, .float 0]))]) [4] rfl
  have hDc := hD.sub (ws' := [(q24_39, .inr (4, [.int 0, .int 0, .float 0]))]) [4] (by decide) rfl
  have hKc := hK.sub (tys' := []) [] rfl
  have hFc := va_free (wc := [(q24_39, .inr (4, [.int 0, .int 0, .float 0]))]) hD hS hA [4] rfl
  refine va_callv (va_runIN (As := []) (rest := [.ref q24_39, .int 2, .ref q6_5]) ⟨hx, hb, hml, hown, hB⟩ (c_X5_init l D [(q24_39, .inr (4, [.int 0, .int 0, .float 0]))] q24_39 H.size) ⟨va_cnB 0 hB (gd_C (fun _ h => h) mw_1_201) rfl rfl rfl (nw_X4_17 hE.2) (hB _ mw_1_6) yd_X5_init ⟨Nat.le_of_ble_eq_true rfl, Nat.le_of_ble_eq_true rfl⟩, rfl, hB _ mw_1_200⟩ ⟨PX_blind, fun U hU hW => ⟨rfl, PX_call hPc hDc hKc hE hAO hS hFc hU hW⟩⟩ rfl rfl hl.1 rfl (lv_room (Nat.le_of_ble_eq_true rfl)) dX4_init_28 ⟨Nat.le_of_ble_eq_true rfl, Nat.le_of_ble_eq_true rfl⟩) hS (fun q _ h => hFc q h) hFc (fun u t H1 locs ht hvm hp hQ hz1 hk1 hS => ?_)
  obtain ⟨hP1, hD1⟩ := hQ
  rw [ht] at hP1
  obtain ⟨hP, hD⟩ := va_join (wr := [(h0, .inr (3, [.ref q6_5])), (q6_5, .inl (k6_5, 3, .inr (.inr (.inr (.inr (va_up (va_up (fun _ => none) 0 (some q24_15)) 1 (some q24_27))))))), (q24_15, .inr (4, [.int 0, .int 0, .float 0])), (q24_27, .inr (4, [.int 0, .int 0, .float 0]))]) (w1 := [(q24_39, .inr (4, [.int 0, .int 0, .float 0]))]) hP hD [4] [0, 1, 2, 3] rfl rfl (by decide) (by decide) hk1 hFc hP1 hD1
  generalize H1 = H at hP hS ⊢
  have hP : va_P D vwCl ([(h0, .inr (3, [.ref q6_5])), (q6_5, .inl (k6_5, 3, .inr (.inr (.inr (.inr (va_up (va_up (fun _ => none) 0 (some q24_15)) 1 (some q24_27))))))), (q24_15, .inr (4, [.int 0, .int 0, .float 0])), (q24_27, .inr (4, [.int 0, .int 0, .float 0])), (q24_39, .inr (4, [.int 0, .int 0, .float 0]))]) H := hP
  have hD : va_D A ([(h0, .inr (3, [.ref q6_5])), (q6_5, .inl (k6_5, 3, .inr (.inr (.inr (.inr (va_up (va_up (fun _ => none) 0 (some q24_15)) 1 (some q24_27))))))), (q24_15, .inr (4, [.int 0, .int 0, .float 0])), (q24_27, .inr (4, [.int 0, .int 0, .float 0])), (q24_39, .inr (4, [.int 0, .int 0, .float 0]))]) := hD
  refine va_astq (D := D) hx hb hK hP hD hS 1 0 4 4 rfl rfl rfl rfl (by unfold vp_in; decide) dX4_init_31 (fun H locs hP hD hS => ?_)
  have hP : va_P D vwCl ([(h0, .inr (3, [.ref q6_5])), (q6_5, .inl (k6_5, 3, .inr (.inr (.inr (.inr (va_up (va_up (va_up (fun _ => none) 0 (some q24_15)) 1 (some q24_27)) 2 (some q24_39))))))), (q24_15, .inr (4, [.int 0, .int 0, .float 0])), (q24_27, .inr (4, [.int 0, .int 0, .float 0])), (q24_39, .inr (4, [.int 0, .int 0, .float 0]))]) H := hP
  have hD : va_D A ([(h0, .inr (3, [.ref q6_5])), (q6_5, .inl (k6_5, 3, .inr (.inr (.inr (.inr (va_up (va_up (va_up (fun _ => none) 0 (some q24_15)) 1 (some q24_27)) 2 (some q24_39))))))), (q24_15, .inr (4, [.int 0, .int 0, .float 0])), (q24_27, .inr (4, [.int 0, .int 0, .float 0])), (q24_39, .inr (4, [.int 0, .int 0, .float 0]))]) := hD
  refine lv_iinc (v := 3) (lv' := [(1, .int 3), (0, .ref h0)]) hx hb dX4_init_32 hl (k := 0) rfl (by decide) (by decide) rfl (fun ls hl => ?_)
  refine lv_goto (tgt := 14) hx hb dX4_init_35 (by decide) ?_
  refine lv_iload_n hx hb dX4_init_14 rfl (lv_at hl 0 rfl) ?_
  refine lv_iconst (v := 3) hx hb dX4_init_15 (by decide) ?_
  refine lv_icmp_ge (tgt := 38) hx hb dX4_init_16 (by decide) (fun _ => ?_) (fun z => absurd (by decide) z)
  have hP2 : va_P D vwCl (wl (cyS k6_5) (adS h0 q6_5 q24_15 q24_27 q24_39) R0 M00 [10, 11, 12, 13, 14]) H := by
    refine wl_P.mpr (fun c hc => ?_)
    simp only [List.mem_cons, List.not_mem_nil, or_false] at hc
    rcases hc with rfl | rfl | rfl | rfl | rfl
    · exact hP 0 _ rfl
    · refine at_ref (n := 3) (g := fun j => (R0 11 j).map (adS h0 q6_5 q24_15 q24_27 q24_39)) (hP 1 _ rfl) (fun j hj => ?_)
      rcases (show j = 0 ∨ j = 1 ∨ j = 2 by omega) with rfl | rfl | rfl <;> rfl
    · exact hP 2 _ rfl
    · exact hP 3 _ rfl
    · exact hP 4 _ rfl
  have hD2 : va_D A (wl (cyS k6_5) (adS h0 q6_5 q24_15 q24_27 q24_39) R0 M00 [10, 11, 12, 13, 14]) := va_D_ad hD rfl
  have hK2 : KK D (cyS k6_5) [10, 11, 12, 13, 14] s := by
    refine ⟨hK.sub (tys' := []) [] rfl, fun c hc hs => ?_⟩
    simp only [List.mem_cons, List.not_mem_nil, or_false] at hc
    rcases hc with rfl | rfl | rfl | rfl | rfl
    · exact absurd rfl hs
    · exact hK.sub (tys' := [(k6_5, .object "MazeBoard$Voice")]) [0] rfl
    · exact absurd rfl hs
    · exact absurd rfl hs
    · exact absurd rfl hs
  refine W.widen (k := 4) (n := 12) (Nat.le_of_ble_eq_true rfl) (Nat.le_of_ble_eq_true rfl) ?_
  subst hAe
  exact W.vret hx hb hr (fun t ht hW => ⟨⟨((adS h0 q6_5 q24_15 q24_27 q24_39), (cyS k6_5)), rfl, rfl, by rw [ht]; exact hP2, KK.moved hW.alike hK2, hD2⟩, hS.F ht⟩) hS.2.2 dX4_init_38 hlocks
