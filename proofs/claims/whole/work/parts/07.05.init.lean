set_option maxHeartbeats 1000000 in
set_option maxRecDepth 100000 in
theorem c_X6_init (l : Launch) (D : va_G) (h0 sz : Nat) : Met l yX6_init (Cond.code yX6_init cX6_init 1 none :: BG) ({ frames := 5, cells := 14, slots := 208, locals := 121 }) (va_Pc [.ref h0] (PX D [(h0, .inr (5, [.null, .null, .int 0, .int 0, .int 0, .int 0]))] sz)) (va_Qv (fun u : (Nat → Nat) × (Nat → Nat) => u.1 0 = h0) (fun u t => va_P D vwCl (wl u.2 u.1 R0 (wI (sp_X1_clear M00) 0 3 (-1)) [0, 1, 2, 3, 4, 5, 6, 7, 8, 9, 10, 11, 12, 13, 14]) t.heap ∧ KK D u.2 [0, 1, 2, 3, 4, 5, 6, 7, 8, 9, 10, 11, 12, 13, 14] t ∧ va_D (va_A [(h0, .inr (5, [.null, .null, .int 0, .int 0, .int 0, .int 0]))] sz) (wl u.2 u.1 R0 (wI (sp_X1_clear M00) 0 3 (-1)) [0, 1, 2, 3, 4, 5, 6, 7, 8, 9, 10, 11, 12, 13, 14])) (va_A [(h0, .inr (5, [.null, .null, .int 0, .int 0, .int 0, .int 0]))] sz)) 14 208 (va_A [(h0, .inr (5, [.null, .null, .int 0, .int 0, .int 0, .int 0]))] sz) := by
  refine x_start (by decide) (Nat.le_of_ble_eq_true rfl) (fun p e s m below meth c A ls hAe hsz hx hb hr hlocks hml hown hin hB hP hK hD hE hAO hA hS hl => ?_)
  subst hsz
  have hown : s.vm.findClass "MazeBoard" = some m.cls := hown
  have hin : meth.name = "<init>" := hin
  have hl : lv_has ls 1 [(0, .ref h0)] := hl
  refine lv_aload_n hx hb dX6_init_0 rfl (lv_at hl 0 rfl) ?_
  refine W.objInit hx hb hown (hB _ mw_1_15) (hB _ mw_1_16) (hB _ mw_1_17) rfl (by rw [hml]; exact hl.1) rfl dX6_init_1 (Nat.le_of_ble_eq_true rfl) (Nat.le_of_ble_eq_true rfl) ?_
  refine W.eq (g2 := F0 m 4 ls []) rfl ?_
  refine lv_aload_n hx hb dX6_init_4 rfl (lv_at hl 0 rfl) ?_
  refine va_new (ci := 1) (fs := [.null, .null, .null, .int 0, .int 0, .int 0, .int 0, .int 0, .int 0, .int 0, .int 0, .int 0, .int 0, .int 0, .int 0, .int 0]) (C := RX1) (T := TX1) (N := 16) hx hb hB uw_X1 tyX1 tyX1_ok hown (hB _ mw_1_18) (hB _ mw_1_19) (hB _ mw_1_2) hK hP hD hS hA rfl (fun j hj => by rcases (show j = 0 ∨ j = 1 ∨ j = 2 ∨ j = 3 ∨ j = 4 ∨ j = 5 ∨ j = 6 ∨ j = 7 ∨ j = 8 ∨ j = 9 ∨ j = 10 ∨ j = 11 ∨ j = 12 ∨ j = 13 ∨ j = 14 ∨ j = 15 by omega) with rfl | rfl | rfl | rfl | rfl | rfl | rfl | rfl | rfl | rfl | rfl | rfl | rfl | rfl | rfl | rfl <;> rfl) (Nat.le_of_ble_eq_true rfl) (Nat.le_of_ble_eq_true rfl) dX6_init_5 (fun q5_4 H hP hD hS => ?_)
  have hP : va_P D vwCl ([(h0, .inr (5, [.null, .null, .int 0, .int 0, .int 0, .int 0])), (q5_4, .inr (1, [.null, .null, .null, .int 0, .int 0, .int 0, .int 0, .int 0, .int 0, .int 0, .int 0, .int 0, .int 0, .int 0, .int 0, .int 0]))]) H := hP
  have hD : va_D A ([(h0, .inr (5, [.null, .null, .int 0, .int 0, .int 0, .int 0])), (q5_4, .inr (1, [.null, .null, .null, .int 0, .int 0, .int 0, .int 0, .int 0, .int 0, .int 0, .int 0, .int 0, .int 0, .int 0, .int 0, .int 0]))]) := hD
  refine lv_dup hx hb dX6_init_8 rfl ?_
  have hPc := hP.sub (ws' := [(q5_4, .inr (1, [.null, .null, .null, .int 0, .int 0, .int 0, .int 0, .int 0, .int 0, .int 0, .int 0, .int 0, .int 0, .int 0, .int 0, .int 0]))]) [1] rfl
  have hDc := hD.sub (ws' := [(q5_4, .inr (1, [.null, .null, .null, .int 0, .int 0, .int 0, .int 0, .int 0, .int 0, .int 0, .int 0, .int 0, .int 0, .int 0, .int 0, .int 0]))]) [1] (by decide) rfl
  have hKc := hK.sub (tys' := []) [] rfl
  have hFc := va_free (wc := [(q5_4, .inr (1, [.null, .null, .null, .int 0, .int 0, .int 0, .int 0, .int 0, .int 0, .int 0, .int 0, .int 0, .int 0, .int 0, .int 0, .int 0]))]) hD hS hA [1] rfl
  refine va_callv (va_runI (As := []) (rest := [.ref q5_4, .ref h0]) ⟨hx, hb, hml, hown, hB⟩ (c_X1_init l D q5_4 H.size) (cwI 0 hB (gd_C (fun _ h => h) mw_1_22) rfl rfl rfl (hB _ mw_1_2) (hB _ mw_1_20) (hB _ mw_1_21) rfl yd_X1_init ⟨Nat.le_of_ble_eq_true rfl, Nat.le_of_ble_eq_true rfl⟩) ⟨PX_blind, fun U hU hW => ⟨rfl, PX_call hPc hDc hKc hE hAO hS hFc hU hW⟩⟩ rfl rfl hl.1 rfl (lv_room (Nat.le_of_ble_eq_true rfl)) dX6_init_9 ⟨Nat.le_of_ble_eq_true rfl, Nat.le_of_ble_eq_true rfl⟩) hS (fun q _ h => hFc q h) hFc (fun u t H1 locs ht hvm hp hQ hz1 hk1 hS => ?_)
  obtain ⟨⟨adg, cyg⟩, rfl⟩ : ∃ z : (Nat → Nat) × (Nat → Nat), z = u := ⟨_, rfl⟩
  obtain ⟨hP1, hK1, hD1⟩ := hQ
  rw [ht] at hP1
  have hKg : KK D cyg [1, 2, 3, 4, 5, 6, 7, 8, 9] s := KK.moved hvm.symm hK1
  have hpg := hp
  obtain ⟨Mg, hMg⟩ : ∃ z : Mem, z = sp_X1_clear M00 := ⟨_, rfl⟩
  rw [← hMg] at hP1 hD1
  have hP1 : va_P D vwCl (wl cyg adg R0 Mg [1, 2, 3, 4, 5, 6, 7, 8, 9]) H1 := hP1
  obtain ⟨hP, hD⟩ := va_join (wr := [(h0, .inr (5, [.null, .null, .int 0, .int 0, .int 0, .int 0]))]) (w1 := (wl cyg adg R0 Mg [1, 2, 3, 4, 5, 6, 7, 8, 9])) hP hD [1] [0] rfl rfl (by decide) (by decide) hk1 hFc hP1 hD1
  generalize H1 = H at hP hS ⊢
  have hP : va_P D vwCl ([(h0, .inr (5, [.null, .null, .int 0, .int 0, .int 0, .int 0]))] ++ (wl cyg adg R0 Mg [1, 2, 3, 4, 5, 6, 7, 8, 9])) H := hP
  have hD : va_D A ([(h0, .inr (5, [.null, .null, .int 0, .int 0, .int 0, .int 0]))] ++ (wl cyg adg R0 Mg [1, 2, 3, 4, 5, 6, 7, 8, 9])) := hD
  refine va_putF (D := D) (ci := 5) (v := .ref q5_4) (ty := tyX6 0) (C := RX6) (T := TX6) (N := 6) hx hb hB uw_X6 tyX6 tyX6_ok nmX6 hown hK hP hD hS 0 rfl rfl 0 (by decide) (hB _ mw_1_219) (fun _ h9 => h9) rfl hin rfl (tyX6_ok 0 (by decide)) rfl rfl (Nat.le_of_ble_eq_true rfl) dX6_init_12 (fun H locs hP hD hS => ?_)
  have hP : va_P D vwCl ([(h0, .inr (5, [.ref q5_4, .null, .int 0, .int 0, .int 0, .int 0]))] ++ (wl cyg adg R0 Mg [1, 2, 3, 4, 5, 6, 7, 8, 9])) H := hP
  have hD : va_D A ([(h0, .inr (5, [.ref q5_4, .null, .int 0, .int 0, .int 0, .int 0]))] ++ (wl cyg adg R0 Mg [1, 2, 3, 4, 5, 6, 7, 8, 9])) := hD
  refine lv_aload_n hx hb dX6_init_15 rfl (lv_at hl 0 rfl) ?_
  refine va_new (ci := 3) (fs := [.null]) (C := RX4) (T := TX4) (N := 1) hx hb hB uw_X4 tyX4 tyX4_ok hown (hB _ mw_1_190) (hB _ mw_1_191) (hB _ mw_1_5) hK hP hD hS hA rfl (fun j hj => by rcases (show j = 0 by omega) with rfl <;> rfl) (Nat.le_of_ble_eq_true rfl) (Nat.le_of_ble_eq_true rfl) dX6_init_16 (fun q16_9 H hP hD hS => ?_)
  have hP : va_P D vwCl ([(h0, .inr (5, [.ref q5_4, .null, .int 0, .int 0, .int 0, .int 0]))] ++ (wl cyg adg R0 Mg [1, 2, 3, 4, 5, 6, 7, 8, 9]) ++ [(q16_9, .inr (3, [.null]))]) H := hP
  have hD : va_D A ([(h0, .inr (5, [.ref q5_4, .null, .int 0, .int 0, .int 0, .int 0]))] ++ (wl cyg adg R0 Mg [1, 2, 3, 4, 5, 6, 7, 8, 9]) ++ [(q16_9, .inr (3, [.null]))]) := hD
  refine lv_dup hx hb dX6_init_19 rfl ?_
  have hPc := hP.sub (ws' := [(q16_9, .inr (3, [.null]))]) [10] rfl
  have hDc := hD.sub (ws' := [(q16_9, .inr (3, [.null]))]) [10] (by decide) rfl
  have hKc := hK.sub (tys' := []) [] rfl
  have hFc := va_free (wc := [(q16_9, .inr (3, [.null]))]) hD hS hA [10] rfl
  refine va_callv (va_runI (As := []) (rest := [.ref q16_9, .ref h0]) ⟨hx, hb, hml, hown, hB⟩ (c_X4_init l D q16_9 H.size) (cwI 0 hB (gd_C (fun _ h => h) mw_1_194) rfl rfl rfl (hB _ mw_1_5) (hB _ mw_1_192) (hB _ mw_1_193) rfl yd_X4_init ⟨Nat.le_of_ble_eq_true rfl, Nat.le_of_ble_eq_true rfl⟩) ⟨PX_blind, fun U hU hW => ⟨rfl, PX_call hPc hDc hKc hE hAO hS hFc hU hW⟩⟩ rfl rfl hl.1 rfl (lv_room (Nat.le_of_ble_eq_true rfl)) dX6_init_20 ⟨Nat.le_of_ble_eq_true rfl, Nat.le_of_ble_eq_true rfl⟩) hS (fun q _ h => hFc q h) hFc (fun u t H1 locs ht hvm hp hQ hz1 hk1 hS => ?_)
  obtain ⟨⟨ads, cys⟩, rfl⟩ : ∃ z : (Nat → Nat) × (Nat → Nat), z = u := ⟨_, rfl⟩
  obtain ⟨hP1, hK1, hD1⟩ := hQ
  rw [ht] at hP1
  have hKs : KK D cys [10, 11, 12, 13, 14] s := KK.moved hvm.symm hK1
  have hps := hp
  obtain ⟨hP, hD⟩ := va_join (wr := [(h0, .inr (5, [.ref q5_4, .null, .int 0, .int 0, .int 0, .int 0]))] ++ (wl cyg adg R0 Mg [1, 2, 3, 4, 5, 6, 7, 8, 9])) (w1 := (wl cys ads R0 M00 [10, 11, 12, 13, 14])) hP hD [10] [0, 1, 2, 3, 4, 5, 6, 7, 8, 9] rfl rfl (by decide) (by decide) hk1 hFc hP1 hD1
  generalize H1 = H at hP hS ⊢
  have hP : va_P D vwCl ([(h0, .inr (5, [.ref q5_4, .null, .int 0, .int 0, .int 0, .int 0]))] ++ (wl cyg adg R0 Mg [1, 2, 3, 4, 5, 6, 7, 8, 9]) ++ (wl cys ads R0 M00 [10, 11, 12, 13, 14])) H := hP
  have hD : va_D A ([(h0, .inr (5, [.ref q5_4, .null, .int 0, .int 0, .int 0, .int 0]))] ++ (wl cyg adg R0 Mg [1, 2, 3, 4, 5, 6, 7, 8, 9]) ++ (wl cys ads R0 M00 [10, 11, 12, 13, 14])) := hD
  refine va_putF (D := D) (ci := 5) (v := .ref q16_9) (ty := tyX6 1) (C := RX6) (T := TX6) (N := 6) hx hb hB uw_X6 tyX6 tyX6_ok nmX6 hown hK hP hD hS 0 rfl rfl 1 (by decide) (hB _ mw_1_220) (fun _ h9 => h9) rfl hin rfl (tyX6_ok 1 (by decide)) rfl rfl (Nat.le_of_ble_eq_true rfl) dX6_init_23 (fun H locs hP hD hS => ?_)
  have hP : va_P D vwCl ([(h0, .inr (5, [.ref q5_4, .ref q16_9, .int 0, .int 0, .int 0, .int 0]))] ++ (wl cyg adg R0 Mg [1, 2, 3, 4, 5, 6, 7, 8, 9]) ++ (wl cys ads R0 M00 [10, 11, 12, 13, 14])) H := hP
  have hD : va_D A ([(h0, .inr (5, [.ref q5_4, .ref q16_9, .int 0, .int 0, .int 0, .int 0]))] ++ (wl cyg adg R0 Mg [1, 2, 3, 4, 5, 6, 7, 8, 9]) ++ (wl cys ads R0 M00 [10, 11, 12, 13, 14])) := hD
  refine lv_aload_n hx hb dX6_init_26 rfl (lv_at hl 0 rfl) ?_
  refine lv_iconst (v := (-1)) hx hb dX6_init_27 (by decide) ?_
  refine va_put (D := D) (ci := 5) (v := .int (-1)) (ty := tyX6 3) (C := RX6) (T := TX6) (N := 6) hx hb hB uw_X6 tyX6 tyX6_ok nmX6 hown hK hP hD hS 0 rfl rfl 3 (by decide) (hB _ mw_1_222) (fun _ h9 => h9) rfl (tyX6_ok 3 (by decide)) rfl rfl (Nat.le_of_ble_eq_true rfl) dX6_init_28 (fun H locs hP hD hS => ?_)
  have hP : va_P D vwCl ([(h0, .inr (5, [.ref q5_4, .ref q16_9, .int 0, .int (-1), .int 0, .int 0]))] ++ (wl cyg adg R0 Mg [1, 2, 3, 4, 5, 6, 7, 8, 9]) ++ (wl cys ads R0 M00 [10, 11, 12, 13, 14])) H := hP
  have hD : va_D A ([(h0, .inr (5, [.ref q5_4, .ref q16_9, .int 0, .int (-1), .int 0, .int 0]))] ++ (wl cyg adg R0 Mg [1, 2, 3, 4, 5, 6, 7, 8, 9]) ++ (wl cys ads R0 M00 [10, 11, 12, 13, 14])) := hD
  have hp1 : adg 1 = q5_4 := hpg
  have hp2 : ads 10 = q16_9 := hps
  clear hpg hps
  subst hp1 hp2
  have hPg : va_P D vwCl (wl cyg adg R0 Mg [1, 2, 3, 4, 5, 6, 7, 8, 9]) H := hP.sub [1, 2, 3, 4, 5, 6, 7, 8, 9] rfl
  have hPs : va_P D vwCl (wl cys ads R0 M00 [10, 11, 12, 13, 14]) H := hP.sub [10, 11, 12, 13, 14] rfl
  have hPb := hP 0 _ rfl
  have hD2 : ∀ M : Mem, va_D A (wl (cyB cyg cys) (adB h0 adg ads) R0 M [0, 1, 2, 3, 4, 5, 6, 7, 8, 9, 10, 11, 12, 13, 14]) := fun M => va_D_ad hD (by simp only [List.map_append, List.map_cons, List.map_nil, wl_ad]; rfl)
  have hD2 := hD2 (wI (sp_X1_clear M00) 0 3 (-1))
  rw [hMg] at hPg
  have hP2 := bd_P hPb hPg hPs
  clear hP hD
  have hK2 : KK D (cyB cyg cys) [0, 1, 2, 3, 4, 5, 6, 7, 8, 9, 10, 11, 12, 13, 14] s := bd_K hKg hKs
  refine W.widen (k := 14) (n := 208) (Nat.le_of_ble_eq_true rfl) (Nat.le_of_ble_eq_true rfl) ?_
  subst hAe
  exact W.vret hx hb hr (fun t ht hW => ⟨⟨(adB h0 adg ads, cyB cyg cys), rfl, rfl, by rw [ht]; exact hP2, KK.moved hW.alike hK2, hD2⟩, hS.F ht⟩) hS.2.2 dX6_init_31 hlocks
