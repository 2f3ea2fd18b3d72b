set_option maxHeartbeats 2000000 in
theorem arm_0 {p : Program} {l : Launch} {e : Env} {s : State} {m : MethodId} {below : List Frame} {meth : Method} {c : Code} {b L i F : Nat} {xs : Nat → Int32} {D : va_G} {cy ad cy' ad' : Nat → Nat} {A B : Mem} {H : Heap} {locs : List Loc} {ls : Array Slot} (hx : p.tables.exec = Jvm.exec) (hb : c.code = code) (hml : c.maxLocals = 8) (hown : s.vm.findClass "MazeBoardLaw" = some m.cls) (hB : ∀ w ∈ BG, w.before #[Value.ref b] s = true) (hX : va_X b L xs s s.heap) (hbl : b < s.heap.size) (hbA : ¬ (fun q : Nat => s.heap.size ≤ q) b) (hKx : KK D cy LXl s) (hKm : KK D cy' LMl s) (hE : EX (fun q => s.heap.size ≤ q) s) (hR : Rl A B) (hI : Inv F A) (hF : F + 60 ≤ 30720) (h1 : vp_in (nI i + 1) L) (h2 : vp_in (nI i + 2) L) (hW : Lg D cy ad LXl cy' ad' LMl s A B H locs) (hl : lv_has ls 8 [(3, .int (nI i)), (2, .ref (ad' 20)), (1, .ref (ad 0)), (0, .ref b)]) (kend : ∀ (F1 : Nat) (A1 B1 : Mem) (H1 : Heap) (locs1 : List Loc) (ls1 : Array Slot), F1 ≤ F + 60 → Rl A1 B1 → Inv F1 A1 → Lg D cy ad LXl cy' ad' LMl s A1 B1 H1 locs1 → lv_has ls1 8 [(3, .int (nI i)), (2, .ref (ad' 20)), (1, .ref (ad 0)), (0, .ref b)] → W p l e room_1 s m #[Value.ref b] below meth c H1 locs1 30 533 (lw_Z below #[Value.ref b] s) (F0 m 450 ls1 [])) : W p l e room_1 s m #[Value.ref b] below meth c H locs 30 533 (lw_Z below #[Value.ref b] s) (F0 m 96 ls []) := by
  have P := P_coin hR hI
  refine lv_aload_n hx hb dL_law_96 rfl (lv_at hl 2 rfl) ?_
  refine g_i (g_V (own := "MazeBoardLaw") (y := yX6_coin) (As := []) (rest := []) ⟨hx, hb, hml, hown, hB⟩ hKx hE hW (c_X6_coin l D cy ad LXl H.size lrX A) (id := 0) rfl (lrX 0 (by decide) (by decide)) rfl mw_1_238 mw_1_239 mw_2_0 mw_1_1 mw_2_1 rfl yd_X6_coin ⟨rfl, rfl⟩ ⟨Nat.le_of_ble_eq_true rfl, Nat.le_of_ble_eq_true rfl⟩ rfl hl.1 rfl (Nat.le_of_ble_eq_true rfl) dL_law_97 ⟨Nat.le_of_ble_eq_true rfl, Nat.le_of_ble_eq_true rfl⟩) hW (fun r M1 H locs hp hW => ?_)
  obtain ⟨rfl, rfl⟩ := hp
  refine lv_aload_n hx hb dL_law_100 rfl (lv_at hl 1 rfl) ?_
  refine g_i (g_V (own := "MazeBoardLaw") (y := yX7_coin) (As := []) (rest := [.int (sp_X6_coin A).1]) ⟨hx, hb, hml, hown, hB⟩ hKm hE hW.symm (c_X7_coin l D cy' ad' LMl H.size lrMl B) (id := 20) rfl (lrMl 20 (by decide) (by decide)) rfl mw_3_141 mw_3_142 mw_3_143 mw_1_7 mw_3_144 rfl yd_X7_coin ⟨rfl, rfl⟩ ⟨Nat.le_of_ble_eq_true rfl, Nat.le_of_ble_eq_true rfl⟩ rfl hl.1 rfl (Nat.le_of_ble_eq_true rfl) dL_law_101 ⟨Nat.le_of_ble_eq_true rfl, Nat.le_of_ble_eq_true rfl⟩) hW.symm (fun r M1 H locs hp hW => ?_)
  obtain ⟨rfl, rfl⟩ := hp
  have hW := hW.symm
  exact lv_icmp_eq (tgt := 450) hx hb dL_law_104 (by decide) (fun _ => kend F _ _ _ _ _ (by omega) P.2.1 P.2.2 hW hl) (fun z => absurd P.1 z)
set_option maxHeartbeats 2000000 in
theorem arm_1 {p : Program} {l : Launch} {e : Env} {s : State} {m : MethodId} {below : List Frame} {meth : Method} {c : Code} {b L i F : Nat} {xs : Nat → Int32} {D : va_G} {cy ad cy' ad' : Nat → Nat} {A B : Mem} {H : Heap} {locs : List Loc} {ls : Array Slot} (hx : p.tables.exec = Jvm.exec) (hb : c.code = code) (hml : c.maxLocals = 8) (hown : s.vm.findClass "MazeBoardLaw" = some m.cls) (hB : ∀ w ∈ BG, w.before #[Value.ref b] s = true) (hX : va_X b L xs s s.heap) (hbl : b < s.heap.size) (hbA : ¬ (fun q : Nat => s.heap.size ≤ q) b) (hKx : KK D cy LXl s) (hKm : KK D cy' LMl s) (hE : EX (fun q => s.heap.size ≤ q) s) (hR : Rl A B) (hI : Inv F A) (hF : F + 60 ≤ 30720) (h1 : vp_in (nI i + 1) L) (h2 : vp_in (nI i + 2) L) (hW : Lg D cy ad LXl cy' ad' LMl s A B H locs) (hl : lv_has ls 8 [(3, .int (nI i)), (2, .ref (ad' 20)), (1, .ref (ad 0)), (0, .ref b)]) (kend : ∀ (F1 : Nat) (A1 B1 : Mem) (H1 : Heap) (locs1 : List Loc) (ls1 : Array Slot), F1 ≤ F + 60 → Rl A1 B1 → Inv F1 A1 → Lg D cy ad LXl cy' ad' LMl s A1 B1 H1 locs1 → lv_has ls1 8 [(3, .int (nI i)), (2, .ref (ad' 20)), (1, .ref (ad 0)), (0, .ref b)] → W p l e room_1 s m #[Value.ref b] below meth c H1 locs1 30 533 (lw_Z below #[Value.ref b] s) (F0 m 450 ls1 [])) : W p l e room_1 s m #[Value.ref b] below meth c H locs 30 533 (lw_Z below #[Value.ref b] s) (F0 m 109 ls []) := by
  have P := P_start hR hI
  refine lv_aload_n hx hb dL_law_109 rfl (lv_at hl 2 rfl) ?_
  refine g_i (g_V (own := "MazeBoardLaw") (y := yX6_start) (As := []) (rest := []) ⟨hx, hb, hml, hown, hB⟩ hKx hE hW (c_X6_start l D cy ad LXl H.size lrX A P.2.2.2.1) (id := 0) rfl (lrX 0 (by decide) (by decide)) rfl mw_2_2 mw_2_3 mw_2_4 mw_1_1 mw_2_5 rfl yd_X6_start ⟨rfl, rfl⟩ ⟨Nat.le_of_ble_eq_true rfl, Nat.le_of_ble_eq_true rfl⟩ rfl hl.1 rfl (Nat.le_of_ble_eq_true rfl) dL_law_110 ⟨Nat.le_of_ble_eq_true rfl, Nat.le_of_ble_eq_true rfl⟩) hW (fun r M1 H locs hp hW => ?_)
  obtain ⟨rfl, rfl⟩ := hp
  refine lv_aload_n hx hb dL_law_113 rfl (lv_at hl 1 rfl) ?_
  refine g_i (g_V (own := "MazeBoardLaw") (y := yX7_start) (As := []) (rest := [.int (sp_X6_start A).1]) ⟨hx, hb, hml, hown, hB⟩ hKm hE hW.symm (c_X7_start l D cy' ad' LMl H.size lrMl B P.2.2.2.2) (id := 20) rfl (lrMl 20 (by decide) (by decide)) rfl mw_3_145 mw_3_146 mw_3_147 mw_1_7 mw_3_148 rfl yd_X7_start ⟨rfl, rfl⟩ ⟨Nat.le_of_ble_eq_true rfl, Nat.le_of_ble_eq_true rfl⟩ rfl hl.1 rfl (Nat.le_of_ble_eq_true rfl) dL_law_114 ⟨Nat.le_of_ble_eq_true rfl, Nat.le_of_ble_eq_true rfl⟩) hW.symm (fun r M1 H locs hp hW => ?_)
  obtain ⟨rfl, rfl⟩ := hp
  have hW := hW.symm
  exact lv_icmp_eq (tgt := 450) hx hb dL_law_117 (by decide) (fun _ => kend F _ _ _ _ _ (by omega) P.2.1 P.2.2.1 hW hl) (fun z => absurd P.1 z)
set_option maxHeartbeats 2000000 in
theorem arm_2 {p : Program} {l : Launch} {e : Env} {s : State} {m : MethodId} {below : List Frame} {meth : Method} {c : Code} {b L i F : Nat} {xs : Nat → Int32} {D : va_G} {cy ad cy' ad' : Nat → Nat} {A B : Mem} {H : Heap} {locs : List Loc} {ls : Array Slot} (hx : p.tables.exec = Jvm.exec) (hb : c.code = code) (hml : c.maxLocals = 8) (hown : s.vm.findClass "MazeBoardLaw" = some m.cls) (hB : ∀ w ∈ BG, w.before #[Value.ref b] s = true) (hX : va_X b L xs s s.heap) (hbl : b < s.heap.size) (hbA : ¬ (fun q : Nat => s.heap.size ≤ q) b) (hKx : KK D cy LXl s) (hKm : KK D cy' LMl s) (hE : EX (fun q => s.heap.size ≤ q) s) (hR : Rl A B) (hI : Inv F A) (hF : F + 60 ≤ 30720) (h1 : vp_in (nI i + 1) L) (h2 : vp_in (nI i + 2) L) (hW : Lg D cy ad LXl cy' ad' LMl s A B H locs) (hl : lv_has ls 8 [(3, .int (nI i)), (2, .ref (ad' 20)), (1, .ref (ad 0)), (0, .ref b)]) (kend : ∀ (F1 : Nat) (A1 B1 : Mem) (H1 : Heap) (locs1 : List Loc) (ls1 : Array Slot), F1 ≤ F + 60 → Rl A1 B1 → Inv F1 A1 → Lg D cy ad LXl cy' ad' LMl s A1 B1 H1 locs1 → lv_has ls1 8 [(3, .int (nI i)), (2, .ref (ad' 20)), (1, .ref (ad 0)), (0, .ref b)] → W p l e room_1 s m #[Value.ref b] below meth c H1 locs1 30 533 (lw_Z below #[Value.ref b] s) (F0 m 450 ls1 [])) : W p l e room_1 s m #[Value.ref b] below meth c H locs 30 533 (lw_Z below #[Value.ref b] s) (F0 m 122 ls []) := by
  have P := P_stick hR hI (xs (nI i + 1).toNatClampNeg)
  refine lv_aload_n hx hb dL_law_122 rfl (lv_at hl 2 rfl) ?_
  refine lv_aload_n hx hb dL_law_123 rfl (lv_at hl 3 rfl) ?_
  refine lv_iload_n hx hb dL_law_124 rfl (lv_at hl 0 rfl) ?_
  refine lv_iconst (v := 1) hx hb dL_law_125 (by decide) ?_
  refine lv_iadd hx hb dL_law_126 ?_
  refine va_sld hx hb hX hbl hbA hW.S h1 dL_law_127 ?_
  refine g_i (g_V (own := "MazeBoardLaw") (y := yX6_stick) (As := [.int (xs (nI i + 1).toNatClampNeg)]) (rest := []) ⟨hx, hb, hml, hown, hB⟩ hKx hE hW (c_X6_stick l D cy ad LXl H.size lrX A (xs (nI i + 1).toNatClampNeg)) (id := 0) rfl (lrX 0 (by decide) (by decide)) rfl mw_2_10 mw_2_11 mw_2_12 mw_1_1 mw_2_13 rfl yd_X6_stick ⟨rfl, rfl⟩ ⟨Nat.le_of_ble_eq_true rfl, Nat.le_of_ble_eq_true rfl⟩ rfl hl.1 rfl (Nat.le_of_ble_eq_true rfl) dL_law_128 ⟨Nat.le_of_ble_eq_true rfl, Nat.le_of_ble_eq_true rfl⟩) hW (fun r M1 H locs hp hW => ?_)
  obtain ⟨rfl, rfl⟩ := hp
  refine lv_aload_n hx hb dL_law_131 rfl (lv_at hl 1 rfl) ?_
  refine lv_aload_n hx hb dL_law_132 rfl (lv_at hl 3 rfl) ?_
  refine lv_iload_n hx hb dL_law_133 rfl (lv_at hl 0 rfl) ?_
  refine lv_iconst (v := 1) hx hb dL_law_134 (by decide) ?_
  refine lv_iadd hx hb dL_law_135 ?_
  refine va_sld hx hb hX hbl hbA hW.S h1 dL_law_136 ?_
  refine g_i (g_V (own := "MazeBoardLaw") (y := yX7_stick) (As := [.int (xs (nI i + 1).toNatClampNeg)]) (rest := [.int (sp_X6_stick A (xs (nI i + 1).toNatClampNeg)).1]) ⟨hx, hb, hml, hown, hB⟩ hKm hE hW.symm (c_X7_stick l D cy' ad' LMl H.size lrMl B (xs (nI i + 1).toNatClampNeg)) (id := 20) rfl (lrMl 20 (by decide) (by decide)) rfl mw_3_149 mw_3_150 mw_3_151 mw_1_7 mw_3_152 rfl yd_X7_stick ⟨rfl, rfl⟩ ⟨Nat.le_of_ble_eq_true rfl, Nat.le_of_ble_eq_true rfl⟩ rfl hl.1 rfl (Nat.le_of_ble_eq_true rfl) dL_law_137 ⟨Nat.le_of_ble_eq_true rfl, Nat.le_of_ble_eq_true rfl⟩) hW.symm (fun r M1 H locs hp hW => ?_)
  obtain ⟨rfl, rfl⟩ := hp
  have hW := hW.symm
  exact lv_icmp_eq (tgt := 450) hx hb dL_law_140 (by decide) (fun _ => kend F _ _ _ _ _ (by omega) P.2.1 P.2.2 hW hl) (fun z => absurd P.1 z)
set_option maxHeartbeats 2000000 in
theorem arm_3 {p : Program} {l : Launch} {e : Env} {s : State} {m : MethodId} {below : List Frame} {meth : Method} {c : Code} {b L i F : Nat} {xs : Nat → Int32} {D : va_G} {cy ad cy' ad' : Nat → Nat} {A B : Mem} {H : Heap} {locs : List Loc} {ls : Array Slot} (hx : p.tables.exec = Jvm.exec) (hb : c.code = code) (hml : c.maxLocals = 8) (hown : s.vm.findClass "MazeBoardLaw" = some m.cls) (hB : ∀ w ∈ BG, w.before #[Value.ref b] s = true) (hX : va_X b L xs s s.heap) (hbl : b < s.heap.size) (hbA : ¬ (fun q : Nat => s.heap.size ≤ q) b) (hKx : KK D cy LXl s) (hKm : KK D cy' LMl s) (hE : EX (fun q => s.heap.size ≤ q) s) (hR : Rl A B) (hI : Inv F A) (hF : F + 60 ≤ 30720) (h1 : vp_in (nI i + 1) L) (h2 : vp_in (nI i + 2) L) (hW : Lg D cy ad LXl cy' ad' LMl s A B H locs) (hl : lv_has ls 8 [(3, .int (nI i)), (2, .ref (ad' 20)), (1, .ref (ad 0)), (0, .ref b)]) (kend : ∀ (F1 : Nat) (A1 B1 : Mem) (H1 : Heap) (locs1 : List Loc) (ls1 : Array Slot), F1 ≤ F + 60 → Rl A1 B1 → Inv F1 A1 → Lg D cy ad LXl cy' ad' LMl s A1 B1 H1 locs1 → lv_has ls1 8 [(3, .int (nI i)), (2, .ref (ad' 20)), (1, .ref (ad 0)), (0, .ref b)] → W p l e room_1 s m #[Value.ref b] below meth c H1 locs1 30 533 (lw_Z below #[Value.ref b] s) (F0 m 450 ls1 [])) : W p l e room_1 s m #[Value.ref b] below meth c H locs 30 533 (lw_Z below #[Value.ref b] s) (F0 m 145 ls []) := by
  have P := P_kick hR hI
  refine lv_aload_n hx hb dL_law_145 rfl (lv_at hl 2 rfl) ?_
  refine g_v (g_V (own := "MazeBoardLaw") (y := yX6_kick) (As := []) (rest := []) ⟨hx, hb, hml, hown, hB⟩ hKx hE hW (c_X6_kick l D cy ad LXl H.size lrX A) (id := 0) rfl (lrX 0 (by decide) (by decide)) rfl mw_2_14 mw_2_15 mw_2_16 mw_1_1 mw_2_17 rfl yd_X6_kick ⟨rfl, rfl⟩ ⟨Nat.le_of_ble_eq_true rfl, Nat.le_of_ble_eq_true rfl⟩ rfl hl.1 rfl (Nat.le_of_ble_eq_true rfl) dL_law_146 ⟨Nat.le_of_ble_eq_true rfl, Nat.le_of_ble_eq_true rfl⟩) hW (fun M1 H locs hp hW => ?_)
  subst hp
  refine lv_aload_n hx hb dL_law_149 rfl (lv_at hl 1 rfl) ?_
  refine g_v (g_V (own := "MazeBoardLaw") (y := yX7_kick) (As := []) (rest := []) ⟨hx, hb, hml, hown, hB⟩ hKm hE hW.symm (c_X7_kick l D cy' ad' LMl H.size lrMl B) (id := 20) rfl (lrMl 20 (by decide) (by decide)) rfl mw_3_153 mw_3_154 mw_3_155 mw_1_7 mw_3_156 rfl yd_X7_kick ⟨rfl, rfl⟩ ⟨Nat.le_of_ble_eq_true rfl, Nat.le_of_ble_eq_true rfl⟩ rfl hl.1 rfl (Nat.le_of_ble_eq_true rfl) dL_law_150 ⟨Nat.le_of_ble_eq_true rfl, Nat.le_of_ble_eq_true rfl⟩) hW.symm (fun M1 H locs hp hW => ?_)
  subst hp
  have hW := hW.symm
  refine lv_goto (tgt := 450) hx hb dL_law_153 (by decide) ?_
  exact kend F _ _ _ _ _ (by omega) P.1 P.2 hW hl
set_option maxHeartbeats 2000000 in
theorem arm_4 {p : Program} {l : Launch} {e : Env} {s : State} {m : MethodId} {below : List Frame} {meth : Method} {c : Code} {b L i F : Nat} {xs : Nat → Int32} {D : va_G} {cy ad cy' ad' : Nat → Nat} {A B : Mem} {H : Heap} {locs : List Loc} {ls : Array Slot} (hx : p.tables.exec = Jvm.exec) (hb : c.code = code) (hml : c.maxLocals = 8) (hown : s.vm.findClass "MazeBoardLaw" = some m.cls) (hB : ∀ w ∈ BG, w.before #[Value.ref b] s = true) (hX : va_X b L xs s s.heap) (hbl : b < s.heap.size) (hbA : ¬ (fun q : Nat => s.heap.size ≤ q) b) (hKx : KK D cy LXl s) (hKm : KK D cy' LMl s) (hE : EX (fun q => s.heap.size ≤ q) s) (hR : Rl A B) (hI : Inv F A) (hF : F + 60 ≤ 30720) (h1 : vp_in (nI i + 1) L) (h2 : vp_in (nI i + 2) L) (hW : Lg D cy ad LXl cy' ad' LMl s A B H locs) (hl : lv_has ls 8 [(3, .int (nI i)), (2, .ref (ad' 20)), (1, .ref (ad 0)), (0, .ref b)]) (kend : ∀ (F1 : Nat) (A1 B1 : Mem) (H1 : Heap) (locs1 : List Loc) (ls1 : Array Slot), F1 ≤ F + 60 → Rl A1 B1 → Inv F1 A1 → Lg D cy ad LXl cy' ad' LMl s A1 B1 H1 locs1 → lv_has ls1 8 [(3, .int (nI i)), (2, .ref (ad' 20)), (1, .ref (ad 0)), (0, .ref b)] → W p l e room_1 s m #[Value.ref b] below meth c H1 locs1 30 533 (lw_Z below #[Value.ref b] s) (F0 m 450 ls1 [])) : W p l e room_1 s m #[Value.ref b] below meth c H locs 30 533 (lw_Z below #[Value.ref b] s) (F0 m 156 ls []) := by
  have P := P_frames hR hI hF (xs (nI i + 1).toNatClampNeg)
  refine lv_aload_n hx hb dL_law_156 rfl (lv_at hl 2 rfl) ?_
  refine lv_aload_n hx hb dL_law_157 rfl (lv_at hl 3 rfl) ?_
  refine lv_iload_n hx hb dL_law_158 rfl (lv_at hl 0 rfl) ?_
  refine lv_iconst (v := 1) hx hb dL_law_159 (by decide) ?_
  refine lv_iadd hx hb dL_law_160 ?_
  refine va_sld hx hb hX hbl hbA hW.S h1 dL_law_161 ?_
  refine g_i (g_V (own := "MazeBoardLaw") (y := yX6_frames) (As := [.int (xs (nI i + 1).toNatClampNeg)]) (rest := []) ⟨hx, hb, hml, hown, hB⟩ hKx hE hW (c_X6_frames l D cy ad LXl H.size lrX A (xs (nI i + 1).toNatClampNeg) P.2.2.2.1) (id := 0) rfl (lrX 0 (by decide) (by decide)) rfl mw_2_18 mw_2_19 mw_2_20 mw_1_1 mw_2_21 rfl yd_X6_frames ⟨rfl, rfl⟩ ⟨Nat.le_of_ble_eq_true rfl, Nat.le_of_ble_eq_true rfl⟩ rfl hl.1 rfl (Nat.le_of_ble_eq_true rfl) dL_law_162 ⟨Nat.le_of_ble_eq_true rfl, Nat.le_of_ble_eq_true rfl⟩) hW (fun r M1 H locs hp hW => ?_)
  obtain ⟨rfl, rfl⟩ := hp
  refine lv_aload_n hx hb dL_law_165 rfl (lv_at hl 1 rfl) ?_
  refine lv_aload_n hx hb dL_law_166 rfl (lv_at hl 3 rfl) ?_
  refine lv_iload_n hx hb dL_law_167 rfl (lv_at hl 0 rfl) ?_
  refine lv_iconst (v := 1) hx hb dL_law_168 (by decide) ?_
  refine lv_iadd hx hb dL_law_169 ?_
  refine va_sld hx hb hX hbl hbA hW.S h1 dL_law_170 ?_
  refine g_i (g_V (own := "MazeBoardLaw") (y := yX7_frames) (As := [.int (xs (nI i + 1).toNatClampNeg)]) (rest := [.int (sp_X6_frames A (xs (nI i + 1).toNatClampNeg)).1]) ⟨hx, hb, hml, hown, hB⟩ hKm hE hW.symm (c_X7_frames l D cy' ad' LMl H.size lrMl B (xs (nI i + 1).toNatClampNeg) P.2.2.2.2) (id := 20) rfl (lrMl 20 (by decide) (by decide)) rfl mw_3_157 mw_3_158 mw_3_159 mw_1_7 mw_3_160 rfl yd_X7_frames ⟨rfl, rfl⟩ ⟨Nat.le_of_ble_eq_true rfl, Nat.le_of_ble_eq_true rfl⟩ rfl hl.1 rfl (Nat.le_of_ble_eq_true rfl) dL_law_171 ⟨Nat.le_of_ble_eq_true rfl, Nat.le_of_ble_eq_true rfl⟩) hW.symm (fun r M1 H locs hp hW => ?_)
  obtain ⟨rfl, rfl⟩ := hp
  have hW := hW.symm
  exact lv_icmp_eq (tgt := 450) hx hb dL_law_174 (by decide) (fun _ => (by obtain ⟨F1, hF1, hI1⟩ := P.2.2.1; exact kend F1 _ _ _ _ _ hF1 P.2.1 hI1 hW hl)) (fun z => absurd P.1 z)
set_option maxHeartbeats 2000000 in
theorem arm_5 {p : Program} {l : Launch} {e : Env} {s : State} {m : MethodId} {below : List Frame} {meth : Method} {c : Code} {b L i F : Nat} {xs : Nat → Int32} {D : va_G} {cy ad cy' ad' : Nat → Nat} {A B : Mem} {H : Heap} {locs : List Loc} {ls : Array Slot} (hx : p.tables.exec = Jvm.exec) (hb : c.code = code) (hml : c.maxLocals = 8) (hown : s.vm.findClass "MazeBoardLaw" = some m.cls) (hB : ∀ w ∈ BG, w.before #[Value.ref b] s = true) (hX : va_X b L xs s s.heap) (hbl : b < s.heap.size) (hbA : ¬ (fun q : Nat => s.heap.size ≤ q) b) (hKx : KK D cy LXl s) (hKm : KK D cy' LMl s) (hE : EX (fun q => s.heap.size ≤ q) s) (hR : Rl A B) (hI : Inv F A) (hF : F + 60 ≤ 30720) (h1 : vp_in (nI i + 1) L) (h2 : vp_in (nI i + 2) L) (hW : Lg D cy ad LXl cy' ad' LMl s A B H locs) (hl : lv_has ls 8 [(3, .int (nI i)), (2, .ref (ad' 20)), (1, .ref (ad 0)), (0, .ref b)]) (kend : ∀ (F1 : Nat) (A1 B1 : Mem) (H1 : Heap) (locs1 : List Loc) (ls1 : Array Slot), F1 ≤ F + 60 → Rl A1 B1 → Inv F1 A1 → Lg D cy ad LXl cy' ad' LMl s A1 B1 H1 locs1 → lv_has ls1 8 [(3, .int (nI i)), (2, .ref (ad' 20)), (1, .ref (ad 0)), (0, .ref b)] → W p l e room_1 s m #[Value.ref b] below meth c H1 locs1 30 533 (lw_Z below #[Value.ref b] s) (F0 m 450 ls1 [])) : W p l e room_1 s m #[Value.ref b] below meth c H locs 30 533 (lw_Z below #[Value.ref b] s) (F0 m 179 ls []) := by
  have P := P_look hR hI (xs (nI i + 1).toNatClampNeg)
  refine lv_aload_n hx hb dL_law_179 rfl (lv_at hl 2 rfl) ?_
  refine lv_aload_n hx hb dL_law_180 rfl (lv_at hl 3 rfl) ?_
  refine lv_iload_n hx hb dL_law_181 rfl (lv_at hl 0 rfl) ?_
  refine lv_iconst (v := 1) hx hb dL_law_182 (by decide) ?_
  refine lv_iadd hx hb dL_law_183 ?_
  refine va_sld hx hb hX hbl hbA hW.S h1 dL_law_184 ?_
  refine g_i (g_V (own := "MazeBoardLaw") (y := yX6_look) (As := [.int (xs (nI i + 1).toNatClampNeg)]) (rest := []) ⟨hx, hb, hml, hown, hB⟩ hKx hE hW (c_X6_look l D cy ad LXl H.size lrX A (xs (nI i + 1).toNatClampNeg)) (id := 0) rfl (lrX 0 (by decide) (by decide)) rfl mw_2_202 mw_2_203 mw_2_204 mw_1_1 mw_2_205 rfl yd_X6_look ⟨rfl, rfl⟩ ⟨Nat.le_of_ble_eq_true rfl, Nat.le_of_ble_eq_true rfl⟩ rfl hl.1 rfl (Nat.le_of_ble_eq_true rfl) dL_law_185 ⟨Nat.le_of_ble_eq_true rfl, Nat.le_of_ble_eq_true rfl⟩) hW (fun r M1 H locs hp hW => ?_)
  obtain ⟨hr1, hM1⟩ := hp
  rw [hM1] at hW
  clear hM1
  subst hr1
  refine lv_aload_n hx hb dL_law_188 rfl (lv_at hl 1 rfl) ?_
  refine lv_aload_n hx hb dL_law_189 rfl (lv_at hl 3 rfl) ?_
  refine lv_iload_n hx hb dL_law_190 rfl (lv_at hl 0 rfl) ?_
  refine lv_iconst (v := 1) hx hb dL_law_191 (by decide) ?_
  refine lv_iadd hx hb dL_law_192 ?_
  refine va_sld hx hb hX hbl hbA hW.S h1 dL_law_193 ?_
  refine g_i (g_V (own := "MazeBoardLaw") (y := yX7_look) (As := [.int (xs (nI i + 1).toNatClampNeg)]) (rest := [.int (sp_X6_look A (xs (nI i + 1).toNatClampNeg))]) ⟨hx, hb, hml, hown, hB⟩ hKm hE hW.symm (c_X7_look l D cy' ad' LMl H.size lrMl B (xs (nI i + 1).toNatClampNeg) P.2) (id := 20) rfl (lrMl 20 (by decide) (by decide)) rfl mw_4_31 mw_4_32 mw_4_33 mw_1_7 mw_4_34 rfl yd_X7_look ⟨rfl, rfl⟩ ⟨Nat.le_of_ble_eq_true rfl, Nat.le_of_ble_eq_true rfl⟩ rfl hl.1 rfl (Nat.le_of_ble_eq_true rfl) dL_law_194 ⟨Nat.le_of_ble_eq_true rfl, Nat.le_of_ble_eq_true rfl⟩) hW.symm (fun r M1 H locs hp hW => ?_)
  obtain ⟨hr1, hM1⟩ := hp
  rw [hM1] at hW
  clear hM1
  subst hr1
  have hW := hW.symm
  exact lv_icmp_eq (tgt := 450) hx hb dL_law_197 (by decide) (fun _ => kend F _ _ _ _ _ (by omega) hR hI hW hl) (fun z => absurd P.1 z)
set_option maxHeartbeats 2000000 in
theorem arm_6 {p : Program} {l : Launch} {e : Env} {s : State} {m : MethodId} {below : List Frame} {meth : Method} {c : Code} {b L i F : Nat} {xs : Nat → Int32} {D : va_G} {cy ad cy' ad' : Nat → Nat} {A B : Mem} {H : Heap} {locs : List Loc} {ls : Array Slot} (hx : p.tables.exec = Jvm.exec) (hb : c.code = code) (hml : c.maxLocals = 8) (hown : s.vm.findClass "MazeBoardLaw" = some m.cls) (hB : ∀ w ∈ BG, w.before #[Value.ref b] s = true) (hX : va_X b L xs s s.heap) (hbl : b < s.heap.size) (hbA : ¬ (fun q : Nat => s.heap.size ≤ q) b) (hKx : KK D cy LXl s) (hKm : KK D cy' LMl s) (hE : EX (fun q => s.heap.size ≤ q) s) (hR : Rl A B) (hI : Inv F A) (hF : F + 60 ≤ 30720) (h1 : vp_in (nI i + 1) L) (h2 : vp_in (nI i + 2) L) (hW : Lg D cy ad LXl cy' ad' LMl s A B H locs) (hl : lv_has ls 8 [(3, .int (nI i)), (2, .ref (ad' 20)), (1, .ref (ad 0)), (0, .ref b)]) (kend : ∀ (F1 : Nat) (A1 B1 : Mem) (H1 : Heap) (locs1 : List Loc) (ls1 : Array Slot), F1 ≤ F + 60 → Rl A1 B1 → Inv F1 A1 → Lg D cy ad LXl cy' ad' LMl s A1 B1 H1 locs1 → lv_has ls1 8 [(3, .int (nI i)), (2, .ref (ad' 20)), (1, .ref (ad 0)), (0, .ref b)] → W p l e room_1 s m #[Value.ref b] below meth c H1 locs1 30 533 (lw_Z below #[Value.ref b] s) (F0 m 450 ls1 [])) : W p l e room_1 s m #[Value.ref b] below meth c H locs 30 533 (lw_Z below #[Value.ref b] s) (F0 m 202 ls []) := by
  have P := P_actor hR (xs (nI i + 1).toNatClampNeg) (xs (nI i + 2).toNatClampNeg)
  refine lv_aload_n hx hb dL_law_202 rfl (lv_at hl 2 rfl) ?_
  refine lv_aload_n hx hb dL_law_203 rfl (lv_at hl 3 rfl) ?_
  refine lv_iload_n hx hb dL_law_204 rfl (lv_at hl 0 rfl) ?_
  refine lv_iconst (v := 1) hx hb dL_law_205 (by decide) ?_
  refine lv_iadd hx hb dL_law_206 ?_
  refine va_sld hx hb hX hbl hbA hW.S h1 dL_law_207 ?_
  refine lv_aload_n hx hb dL_law_208 rfl (lv_at hl 3 rfl) ?_
  refine lv_iload_n hx hb dL_law_209 rfl (lv_at hl 0 rfl) ?_
  refine lv_iconst (v := 2) hx hb dL_law_210 (by decide) ?_
  refine lv_iadd hx hb dL_law_211 ?_
  refine va_sld hx hb hX hbl hbA hW.S h2 dL_law_212 ?_
  refine g_i (g_V (own := "MazeBoardLaw") (y := yX6_actor) (As := [.int (xs (nI i + 1).toNatClampNeg), .int (xs (nI i + 2).toNatClampNeg)]) (rest := []) ⟨hx, hb, hml, hown, hB⟩ hKx hE hW (c_X6_actor l D cy ad LXl H.size lrX A (xs (nI i + 1).toNatClampNeg) (xs (nI i + 2).toNatClampNeg) P.2.1) (id := 0) rfl (lrX 0 (by decide) (by decide)) rfl mw_2_206 mw_2_207 mw_2_208 mw_1_1 mw_2_209 rfl yd_X6_actor ⟨rfl, rfl⟩ ⟨Nat.le_of_ble_eq_true rfl, Nat.le_of_ble_eq_true rfl⟩ rfl hl.1 rfl (Nat.le_of_ble_eq_true rfl) dL_law_213 ⟨Nat.le_of_ble_eq_true rfl, Nat.le_of_ble_eq_true rfl⟩) hW (fun r M1 H locs hp hW => ?_)
  obtain ⟨hr1, hM1⟩ := hp
  rw [hM1] at hW
  clear hM1
  subst hr1
  refine lv_aload_n hx hb dL_law_216 rfl (lv_at hl 1 rfl) ?_
  refine lv_aload_n hx hb dL_law_217 rfl (lv_at hl 3 rfl) ?_
  refine lv_iload_n hx hb dL_law_218 rfl (lv_at hl 0 rfl) ?_
  refine lv_iconst (v := 1) hx hb dL_law_219 (by decide) ?_
  refine lv_iadd hx hb dL_law_220 ?_
  refine va_sld hx hb hX hbl hbA hW.S h1 dL_law_221 ?_
  refine lv_aload_n hx hb dL_law_222 rfl (lv_at hl 3 rfl) ?_
  refine lv_iload_n hx hb dL_law_223 rfl (lv_at hl 0 rfl) ?_
  refine lv_iconst (v := 2) hx hb dL_law_224 (by decide) ?_
  refine lv_iadd hx hb dL_law_225 ?_
  refine va_sld hx hb hX hbl hbA hW.S h2 dL_law_226 ?_
  refine g_i (g_V (own := "MazeBoardLaw") (y := yX7_actor) (As := [.int (xs (nI i + 1).toNatClampNeg), .int (xs (nI i + 2).toNatClampNeg)]) (rest := [.int (sp_X6_actor A (xs (nI i + 1).toNatClampNeg) (xs (nI i + 2).toNatClampNeg))]) ⟨hx, hb, hml, hown, hB⟩ hKm hE hW.symm (c_X7_actor l D cy' ad' LMl H.size lrMl B (xs (nI i + 1).toNatClampNeg) (xs (nI i + 2).toNatClampNeg) P.2.2) (id := 20) rfl (lrMl 20 (by decide) (by decide)) rfl mw_4_35 mw_4_36 mw_4_37 mw_1_7 mw_4_38 rfl yd_X7_actor ⟨rfl, rfl⟩ ⟨Nat.le_of_ble_eq_true rfl, Nat.le_of_ble_eq_true rfl⟩ rfl hl.1 rfl (Nat.le_of_ble_eq_true rfl) dL_law_227 ⟨Nat.le_of_ble_eq_true rfl, Nat.le_of_ble_eq_true rfl⟩) hW.symm (fun r M1 H locs hp hW => ?_)
  obtain ⟨hr1, hM1⟩ := hp
  rw [hM1] at hW
  clear hM1
  subst hr1
  have hW := hW.symm
  exact lv_icmp_eq (tgt := 450) hx hb dL_law_230 (by decide) (fun _ => kend F _ _ _ _ _ (by omega) hR hI hW hl) (fun z => absurd P.1 z)
set_option maxHeartbeats 2000000 in
theorem arm_7 {p : Program} {l : Launch} {e : Env} {s : State} {m : MethodId} {below : List Frame} {meth : Method} {c : Code} {b L i F : Nat} {xs : Nat → Int32} {D : va_G} {cy ad cy' ad' : Nat → Nat} {A B : Mem} {H : Heap} {locs : List Loc} {ls : Array Slot} (hx : p.tables.exec = Jvm.exec) (hb : c.code = code) (hml : c.maxLocals = 8) (hown : s.vm.findClass "MazeBoardLaw" = some m.cls) (hB : ∀ w ∈ BG, w.before #[Value.ref b] s = true) (hX : va_X b L xs s s.heap) (hbl : b < s.heap.size) (hbA : ¬ (fun q : Nat => s.heap.size ≤ q) b) (hKx : KK D cy LXl s) (hKm : KK D cy' LMl s) (hE : EX (fun q => s.heap.size ≤ q) s) (hR : Rl A B) (hI : Inv F A) (hF : F + 60 ≤ 30720) (h1 : vp_in (nI i + 1) L) (h2 : vp_in (nI i + 2) L) (hW : Lg D cy ad LXl cy' ad' LMl s A B H locs) (hl : lv_has ls 8 [(3, .int (nI i)), (2, .ref (ad' 20)), (1, .ref (ad 0)), (0, .ref b)]) (kend : ∀ (F1 : Nat) (A1 B1 : Mem) (H1 : Heap) (locs1 : List Loc) (ls1 : Array Slot), F1 ≤ F + 60 → Rl A1 B1 → Inv F1 A1 → Lg D cy ad LXl cy' ad' LMl s A1 B1 H1 locs1 → lv_has ls1 8 [(3, .int (nI i)), (2, .ref (ad' 20)), (1, .ref (ad 0)), (0, .ref b)] → W p l e room_1 s m #[Value.ref b] below meth c H1 locs1 30 533 (lw_Z below #[Value.ref b] s) (F0 m 450 ls1 [])) : W p l e room_1 s m #[Value.ref b] below meth c H locs 30 533 (lw_Z below #[Value.ref b] s) (F0 m 235 ls []) := by
  have P := P_progress hR hI (xs (nI i + 1).toNatClampNeg)
  refine lv_aload_n hx hb dL_law_235 rfl (lv_at hl 2 rfl) ?_
  refine lv_aload_n hx hb dL_law_236 rfl (lv_at hl 3 rfl) ?_
  refine lv_iload_n hx hb dL_law_237 rfl (lv_at hl 0 rfl) ?_
  refine lv_iconst (v := 1) hx hb dL_law_238 (by decide) ?_
  refine lv_iadd hx hb dL_law_239 ?_
  refine va_sld hx hb hX hbl hbA hW.S h1 dL_law_240 ?_
  refine g_f (g_V (own := "MazeBoardLaw") (y := yX6_progress) (As := [.int (xs (nI i + 1).toNatClampNeg)]) (rest := []) ⟨hx, hb, hml, hown, hB⟩ hKx hE hW (c_X6_progress l D cy ad LXl H.size lrX A (xs (nI i + 1).toNatClampNeg) P.2.1) (id := 0) rfl (lrX 0 (by decide) (by decide)) rfl mw_2_210 mw_2_211 mw_2_212 mw_1_1 mw_2_213 rfl yd_X6_progress ⟨rfl, rfl⟩ ⟨Nat.le_of_ble_eq_true rfl, Nat.le_of_ble_eq_true rfl⟩ rfl hl.1 rfl (Nat.le_of_ble_eq_true rfl) dL_law_241 ⟨Nat.le_of_ble_eq_true rfl, Nat.le_of_ble_eq_true rfl⟩) hW (fun r M1 H locs hp hW => ?_)
  obtain ⟨hr1, hM1⟩ := hp
  rw [hM1] at hW
  clear hM1
  subst hr1
  refine lv_f2d hx hb dL_law_244 (vf64 P.2.2.2) ?_
  refine lv_dstore (lv' := [(4, .double (FP.f2d (sp_X6_progress A (xs (nI i + 1).toNatClampNeg)))), (3, .int (nI i)), (2, .ref (ad' 20)), (1, .ref (ad 0)), (0, .ref b)]) hx hb dL_law_245 hl (by decide) rfl (fun ls hl => ?_)
  refine lv_aload_n hx hb dL_law_247 rfl (lv_at hl 2 rfl) ?_
  refine lv_aload_n hx hb dL_law_248 rfl (lv_at hl 4 rfl) ?_
  refine lv_iload_n hx hb dL_law_249 rfl (lv_at hl 1 rfl) ?_
  refine lv_iconst (v := 1) hx hb dL_law_250 (by decide) ?_
  refine lv_iadd hx hb dL_law_251 ?_
  refine va_sld hx hb hX hbl hbA hW.S h1 dL_law_252 ?_
  refine g_f (g_V (own := "MazeBoardLaw") (y := yX7_progress) (As := [.int (xs (nI i + 1).toNatClampNeg)]) (rest := []) ⟨hx, hb, hml, hown, hB⟩ hKm hE hW.symm (c_X7_progress l D cy' ad' LMl H.size lrMl B (xs (nI i + 1).toNatClampNeg) P.2.2.1) (id := 20) rfl (lrMl 20 (by decide) (by decide)) rfl mw_4_39 mw_4_40 mw_4_41 mw_1_7 mw_4_42 rfl yd_X7_progress ⟨rfl, rfl⟩ ⟨Nat.le_of_ble_eq_true rfl, Nat.le_of_ble_eq_true rfl⟩ rfl hl.1 rfl (Nat.le_of_ble_eq_true rfl) dL_law_253 ⟨Nat.le_of_ble_eq_true rfl, Nat.le_of_ble_eq_true rfl⟩) hW.symm (fun r M1 H locs hp hW => ?_)
  obtain ⟨hr1, hM1⟩ := hp
  rw [hM1] at hW
  clear hM1
  have hr1 := hr1.trans P.1.symm
  subst hr1
  have hW := hW.symm
  refine lv_f2d hx hb dL_law_256 (vf64 P.2.2.2) ?_
  refine lv_dstore (lv' := [(6, .double (FP.f2d (sp_X6_progress A (xs (nI i + 1).toNatClampNeg)))), (4, .double (FP.f2d (sp_X6_progress A (xs (nI i + 1).toNatClampNeg)))), (3, .int (nI i)), (2, .ref (ad' 20)), (1, .ref (ad 0)), (0, .ref b)]) hx hb dL_law_257 hl (by decide) rfl (fun ls hl => ?_)
  have kg : W p l e room_1 s m #[Value.ref b] below meth c H locs 30 533 (lw_Z below #[Value.ref b] s) (F0 m 285 ls []) := by
    refine lv_goto (tgt := 450) hx hb dL_law_285 (by decide) ?_
    exact kend F _ _ _ _ _ (by omega) hR hI hW (lv_sub hl [2, 3, 4, 5] rfl)
  refine lv_dload hx hb dL_law_259 (lv_at hl 1 rfl) ?_
  refine lv_dload hx hb dL_law_261 (lv_at hl 0 rfl) ?_
  refine lv_dcmp hx hb dL_law_263 ?_
  refine lv_if_eq (tgt := 285) hx hb dL_law_264 (by decide) (fun _ => kg) (fun z => ?_)
  refine lv_dload hx hb dL_law_267 (lv_at hl 1 rfl) ?_
  refine lv_dload hx hb dL_law_269 (lv_at hl 1 rfl) ?_
  refine lv_dcmp hx hb dL_law_271 ?_
  refine lv_if_eq (tgt := 283) hx hb dL_law_272 (by decide) (fun z9 => absurd z9 z) (fun _ => ?_)
  refine lv_dload hx hb dL_law_275 (lv_at hl 0 rfl) ?_
  refine lv_dload hx hb dL_law_277 (lv_at hl 0 rfl) ?_
  refine lv_dcmp hx hb dL_law_279 ?_
  exact lv_if_ne (tgt := 285) hx hb dL_law_280 (by decide) (fun _ => kg) (fun z9 => absurd z9 z)
set_option maxHeartbeats 2000000 in
theorem arm_8 {p : Program} {l : Launch} {e : Env} {s : State} {m : MethodId} {below : List Frame} {meth : Method} {c : Code} {b L i F : Nat} {xs : Nat → Int32} {D : va_G} {cy ad cy' ad' : Nat → Nat} {A B : Mem} {H : Heap} {locs : List Loc} {ls : Array Slot} (hx : p.tables.exec = Jvm.exec) (hb : c.code = code) (hml : c.maxLocals = 8) (hown : s.vm.findClass "MazeBoardLaw" = some m.cls) (hB : ∀ w ∈ BG, w.before #[Value.ref b] s = true) (hX : va_X b L xs s s.heap) (hbl : b < s.heap.size) (hbA : ¬ (fun q : Nat => s.heap.size ≤ q) b) (hKx : KK D cy LXl s) (hKm : KK D cy' LMl s) (hE : EX (fun q => s.heap.size ≤ q) s) (hR : Rl A B) (hI : Inv F A) (hF : F + 60 ≤ 30720) (h1 : vp_in (nI i + 1) L) (h2 : vp_in (nI i + 2) L) (hW : Lg D cy ad LXl cy' ad' LMl s A B H locs) (hl : lv_has ls 8 [(3, .int (nI i)), (2, .ref (ad' 20)), (1, .ref (ad 0)), (0, .ref b)]) (kend : ∀ (F1 : Nat) (A1 B1 : Mem) (H1 : Heap) (locs1 : List Loc) (ls1 : Array Slot), F1 ≤ F + 60 → Rl A1 B1 → Inv F1 A1 → Lg D cy ad LXl cy' ad' LMl s A1 B1 H1 locs1 → lv_has ls1 8 [(3, .int (nI i)), (2, .ref (ad' 20)), (1, .ref (ad 0)), (0, .ref b)] → W p l e room_1 s m #[Value.ref b] below meth c H1 locs1 30 533 (lw_Z below #[Value.ref b] s) (F0 m 450 ls1 [])) : W p l e room_1 s m #[Value.ref b] below meth c H locs 30 533 (lw_Z below #[Value.ref b] s) (F0 m 288 ls []) := by
  have P := P_cell hR (xs (nI i + 1).toNatClampNeg) (xs (nI i + 2).toNatClampNeg)
  refine lv_aload_n hx hb dL_law_288 rfl (lv_at hl 2 rfl) ?_
  refine lv_aload_n hx hb dL_law_289 rfl (lv_at hl 3 rfl) ?_
  refine lv_iload_n hx hb dL_law_290 rfl (lv_at hl 0 rfl) ?_
  refine lv_iconst (v := 1) hx hb dL_law_291 (by decide) ?_
  refine lv_iadd hx hb dL_law_292 ?_
  refine va_sld hx hb hX hbl hbA hW.S h1 dL_law_293 ?_
  refine lv_aload_n hx hb dL_law_294 rfl (lv_at hl 3 rfl) ?_
  refine lv_iload_n hx hb dL_law_295 rfl (lv_at hl 0 rfl) ?_
  refine lv_iconst (v := 2) hx hb dL_law_296 (by decide) ?_
  refine lv_iadd hx hb dL_law_297 ?_
  refine va_sld hx hb hX hbl hbA hW.S h2 dL_law_298 ?_
  refine g_i (g_V (own := "MazeBoardLaw") (y := yX6_cell) (As := [.int (xs (nI i + 1).toNatClampNeg), .int (xs (nI i + 2).toNatClampNeg)]) (rest := []) ⟨hx, hb, hml, hown, hB⟩ hKx hE hW (c_X6_cell l D cy ad LXl H.size lrX A (xs (nI i + 1).toNatClampNeg) (xs (nI i + 2).toNatClampNeg) P.2.1) (id := 0) rfl (lrX 0 (by decide) (by decide)) rfl mw_2_214 mw_2_215 mw_2_216 mw_1_1 mw_2_217 rfl yd_X6_cell ⟨rfl, rfl⟩ ⟨Nat.le_of_ble_eq_true rfl, Nat.le_of_ble_eq_true rfl⟩ rfl hl.1 rfl (Nat.le_of_ble_eq_true rfl) dL_law_299 ⟨Nat.le_of_ble_eq_true rfl, Nat.le_of_ble_eq_true rfl⟩) hW (fun r M1 H locs hp hW => ?_)
  obtain ⟨hr1, hM1⟩ := hp
  rw [hM1] at hW
  clear hM1
  subst hr1
  refine lv_aload_n hx hb dL_law_302 rfl (lv_at hl 1 rfl) ?_
  refine lv_aload_n hx hb dL_law_303 rfl (lv_at hl 3 rfl) ?_
  refine lv_iload_n hx hb dL_law_304 rfl (lv_at hl 0 rfl) ?_
  refine lv_iconst (v := 1) hx hb dL_law_305 (by decide) ?_
  refine lv_iadd hx hb dL_law_306 ?_
  refine va_sld hx hb hX hbl hbA hW.S h1 dL_law_307 ?_
  refine lv_aload_n hx hb dL_law_308 rfl (lv_at hl 3 rfl) ?_
  refine lv_iload_n hx hb dL_law_309 rfl (lv_at hl 0 rfl) ?_
  refine lv_iconst (v := 2) hx hb dL_law_310 (by decide) ?_
  refine lv_iadd hx hb dL_law_311 ?_
  refine va_sld hx hb hX hbl hbA hW.S h2 dL_law_312 ?_
  refine g_i (g_V (own := "MazeBoardLaw") (y := yX7_cell) (As := [.int (xs (nI i + 1).toNatClampNeg), .int (xs (nI i + 2).toNatClampNeg)]) (rest := [.int (sp_X6_cell A (xs (nI i + 1).toNatClampNeg) (xs (nI i + 2).toNatClampNeg))]) ⟨hx, hb, hml, hown, hB⟩ hKm hE hW.symm (c_X7_cell l D cy' ad' LMl H.size lrMl B (xs (nI i + 1).toNatClampNeg) (xs (nI i + 2).toNatClampNeg) P.2.2) (id := 20) rfl (lrMl 20 (by decide) (by decide)) rfl mw_4_43 mw_4_44 mw_4_45 mw_1_7 mw_4_46 rfl yd_X7_cell ⟨rfl, rfl⟩ ⟨Nat.le_of_ble_eq_true rfl, Nat.le_of_ble_eq_true rfl⟩ rfl hl.1 rfl (Nat.le_of_ble_eq_true rfl) dL_law_313 ⟨Nat.le_of_ble_eq_true rfl, Nat.le_of_ble_eq_true rfl⟩) hW.symm (fun r M1 H locs hp hW => ?_)
  obtain ⟨hr1, hM1⟩ := hp
  rw [hM1] at hW
  clear hM1
  subst hr1
  have hW := hW.symm
  exact lv_icmp_eq (tgt := 450) hx hb dL_law_316 (by decide) (fun _ => kend F _ _ _ _ _ (by omega) hR hI hW hl) (fun z => absurd P.1 z)
set_option maxHeartbeats 2000000 in
theorem arm_9 {p : Program} {l : Launch} {e : Env} {s : State} {m : MethodId} {below : List Frame} {meth : Method} {c : Code} {b L i F : Nat} {xs : Nat → Int32} {D : va_G} {cy ad cy' ad' : Nat → Nat} {A B : Mem} {H : Heap} {locs : List Loc} {ls : Array Slot} (hx : p.tables.exec = Jvm.exec) (hb : c.code = code) (hml : c.maxLocals = 8) (hown : s.vm.findClass "MazeBoardLaw" = some m.cls) (hB : ∀ w ∈ BG, w.before #[Value.ref b] s = true) (hX : va_X b L xs s s.heap) (hbl : b < s.heap.size) (hbA : ¬ (fun q : Nat => s.heap.size ≤ q) b) (hKx : KK D cy LXl s) (hKm : KK D cy' LMl s) (hE : EX (fun q => s.heap.size ≤ q) s) (hR : Rl A B) (hI : Inv F A) (hF : F + 60 ≤ 30720) (h1 : vp_in (nI i + 1) L) (h2 : vp_in (nI i + 2) L) (hW : Lg D cy ad LXl cy' ad' LMl s A B H locs) (hl : lv_has ls 8 [(3, .int (nI i)), (2, .ref (ad' 20)), (1, .ref (ad 0)), (0, .ref b)]) (kend : ∀ (F1 : Nat) (A1 B1 : Mem) (H1 : Heap) (locs1 : List Loc) (ls1 : Array Slot), F1 ≤ F + 60 → Rl A1 B1 → Inv F1 A1 → Lg D cy ad LXl cy' ad' LMl s A1 B1 H1 locs1 → lv_has ls1 8 [(3, .int (nI i)), (2, .ref (ad' 20)), (1, .ref (ad 0)), (0, .ref b)] → W p l e room_1 s m #[Value.ref b] below meth c H1 locs1 30 533 (lw_Z below #[Value.ref b] s) (F0 m 450 ls1 [])) : W p l e room_1 s m #[Value.ref b] below meth c H locs 30 533 (lw_Z below #[Value.ref b] s) (F0 m 321 ls []) := by
  have P := P_point hR hI (xs (nI i + 1).toNatClampNeg) (xs (nI i + 2).toNatClampNeg)
  refine lv_aload_n hx hb dL_law_321 rfl (lv_at hl 2 rfl) ?_
  refine lv_aload_n hx hb dL_law_322 rfl (lv_at hl 3 rfl) ?_
  refine lv_iload_n hx hb dL_law_323 rfl (lv_at hl 0 rfl) ?_
  refine lv_iconst (v := 1) hx hb dL_law_324 (by decide) ?_
  refine lv_iadd hx hb dL_law_325 ?_
  refine va_sld hx hb hX hbl hbA hW.S h1 dL_law_326 ?_
  refine lv_aload_n hx hb dL_law_327 rfl (lv_at hl 3 rfl) ?_
  refine lv_iload_n hx hb dL_law_328 rfl (lv_at hl 0 rfl) ?_
  refine lv_iconst (v := 2) hx hb dL_law_329 (by decide) ?_
  refine lv_iadd hx hb dL_law_330 ?_
  refine va_sld hx hb hX hbl hbA hW.S h2 dL_law_331 ?_
  refine g_i (g_V (own := "MazeBoardLaw") (y := yX6_point) (As := [.int (xs (nI i + 1).toNatClampNeg), .int (xs (nI i + 2).toNatClampNeg)]) (rest := []) ⟨hx, hb, hml, hown, hB⟩ hKx hE hW (c_X6_point l D cy ad LXl H.size lrX A (xs (nI i + 1).toNatClampNeg) (xs (nI i + 2).toNatClampNeg) P.2.1) (id := 0) rfl (lrX 0 (by decide) (by decide)) rfl mw_2_219 mw_2_220 mw_2_221 mw_1_1 mw_2_222 rfl yd_X6_point ⟨rfl, rfl⟩ ⟨Nat.le_of_ble_eq_true rfl, Nat.le_of_ble_eq_true rfl⟩ rfl hl.1 rfl (Nat.le_of_ble_eq_true rfl) dL_law_332 ⟨Nat.le_of_ble_eq_true rfl, Nat.le_of_ble_eq_true rfl⟩) hW (fun r M1 H locs hp hW => ?_)
  obtain ⟨hr1, hM1⟩ := hp
  rw [hM1] at hW
  clear hM1
  subst hr1
  refine lv_aload_n hx hb dL_law_335 rfl (lv_at hl 1 rfl) ?_
  refine lv_aload_n hx hb dL_law_336 rfl (lv_at hl 3 rfl) ?_
  refine lv_iload_n hx hb dL_law_337 rfl (lv_at hl 0 rfl) ?_
  refine lv_iconst (v := 1) hx hb dL_law_338 (by decide) ?_
  refine lv_iadd hx hb dL_law_339 ?_
  refine va_sld hx hb hX hbl hbA hW.S h1 dL_law_340 ?_
  refine lv_aload_n hx hb dL_law_341 rfl (lv_at hl 3 rfl) ?_
  refine lv_iload_n hx hb dL_law_342 rfl (lv_at hl 0 rfl) ?_
  refine lv_iconst (v := 2) hx hb dL_law_343 (by decide) ?_
  refine lv_iadd hx hb dL_law_344 ?_
  refine va_sld hx hb hX hbl hbA hW.S h2 dL_law_345 ?_
  refine g_i (g_V (own := "MazeBoardLaw") (y := yX7_point) (As := [.int (xs (nI i + 1).toNatClampNeg), .int (xs (nI i + 2).toNatClampNeg)]) (rest := [.int (sp_X6_point A (xs (nI i + 1).toNatClampNeg) (xs (nI i + 2).toNatClampNeg))]) ⟨hx, hb, hml, hown, hB⟩ hKm hE hW.symm (c_X7_point l D cy' ad' LMl H.size lrMl B (xs (nI i + 1).toNatClampNeg) (xs (nI i + 2).toNatClampNeg) P.2.2) (id := 20) rfl (lrMl 20 (by decide) (by decide)) rfl mw_4_47 mw_4_48 mw_4_49 mw_1_7 mw_4_50 rfl yd_X7_point ⟨rfl, rfl⟩ ⟨Nat.le_of_ble_eq_true rfl, Nat.le_of_ble_eq_true rfl⟩ rfl hl.1 rfl (Nat.le_of_ble_eq_true rfl) dL_law_346 ⟨Nat.le_of_ble_eq_true rfl, Nat.le_of_ble_eq_true rfl⟩) hW.symm (fun r M1 H locs hp hW => ?_)
  obtain ⟨hr1, hM1⟩ := hp
  rw [hM1] at hW
  clear hM1
  subst hr1
  have hW := hW.symm
  exact lv_icmp_eq (tgt := 450) hx hb dL_law_349 (by decide) (fun _ => kend F _ _ _ _ _ (by omega) hR hI hW hl) (fun z => absurd P.1 z)
set_option maxHeartbeats 2000000 in
theorem arm_10 {p : Program} {l : Launch} {e : Env} {s : State} {m : MethodId} {below : List Frame} {meth : Method} {c : Code} {b L i F : Nat} {xs : Nat → Int32} {D : va_G} {cy ad cy' ad' : Nat → Nat} {A B : Mem} {H : Heap} {locs : List Loc} {ls : Array Slot} (hx : p.tables.exec = Jvm.exec) (hb : c.code = code) (hml : c.maxLocals = 8) (hown : s.vm.findClass "MazeBoardLaw" = some m.cls) (hB : ∀ w ∈ BG, w.before #[Value.ref b] s = true) (hX : va_X b L xs s s.heap) (hbl : b < s.heap.size) (hbA : ¬ (fun q : Nat => s.heap.size ≤ q) b) (hKx : KK D cy LXl s) (hKm : KK D cy' LMl s) (hE : EX (fun q => s.heap.size ≤ q) s) (hR : Rl A B) (hI : Inv F A) (hF : F + 60 ≤ 30720) (h1 : vp_in (nI i + 1) L) (h2 : vp_in (nI i + 2) L) (hW : Lg D cy ad LXl cy' ad' LMl s A B H locs) (hl : lv_has ls 8 [(3, .int (nI i)), (2, .ref (ad' 20)), (1, .ref (ad 0)), (0, .ref b)]) (kend : ∀ (F1 : Nat) (A1 B1 : Mem) (H1 : Heap) (locs1 : List Loc) (ls1 : Array Slot), F1 ≤ F + 60 → Rl A1 B1 → Inv F1 A1 → Lg D cy ad LXl cy' ad' LMl s A1 B1 H1 locs1 → lv_has ls1 8 [(3, .int (nI i)), (2, .ref (ad' 20)), (1, .ref (ad 0)), (0, .ref b)] → W p l e room_1 s m #[Value.ref b] below meth c H1 locs1 30 533 (lw_Z below #[Value.ref b] s) (F0 m 450 ls1 [])) : W p l e room_1 s m #[Value.ref b] below meth c H locs 30 533 (lw_Z below #[Value.ref b] s) (F0 m 354 ls []) := by
  have P := P_volume hR hI (xs (nI i + 1).toNatClampNeg)
  refine lv_aload_n hx hb dL_law_354 rfl (lv_at hl 2 rfl) ?_
  refine lv_aload_n hx hb dL_law_355 rfl (lv_at hl 3 rfl) ?_
  refine lv_iload_n hx hb dL_law_356 rfl (lv_at hl 0 rfl) ?_
  refine lv_iconst (v := 1) hx hb dL_law_357 (by decide) ?_
  refine lv_iadd hx hb dL_law_358 ?_
  refine va_sld hx hb hX hbl hbA hW.S h1 dL_law_359 ?_
  refine g_f (g_V (own := "MazeBoardLaw") (y := yX6_volume) (As := [.int (xs (nI i + 1).toNatClampNeg)]) (rest := []) ⟨hx, hb, hml, hown, hB⟩ hKx hE hW (c_X6_volume l D cy ad LXl H.size lrX A (xs (nI i + 1).toNatClampNeg) P.2.1) (id := 0) rfl (lrX 0 (by decide) (by decide)) rfl mw_3_5 mw_3_6 mw_3_7 mw_1_1 mw_3_8 rfl yd_X6_volume ⟨rfl, rfl⟩ ⟨Nat.le_of_ble_eq_true rfl, Nat.le_of_ble_eq_true rfl⟩ rfl hl.1 rfl (Nat.le_of_ble_eq_true rfl) dL_law_360 ⟨Nat.le_of_ble_eq_true rfl, Nat.le_of_ble_eq_true rfl⟩) hW (fun r M1 H locs hp hW => ?_)
  obtain ⟨hr1, hM1⟩ := hp
  rw [hM1] at hW
  clear hM1
  subst hr1
  refine lv_f2d hx hb dL_law_363 (vf64 P.2.2.2) ?_
  refine lv_dstore (lv' := [(4, .double (FP.f2d (sp_X6_volume A (xs (nI i + 1).toNatClampNeg)))), (3, .int (nI i)), (2, .ref (ad' 20)), (1, .ref (ad 0)), (0, .ref b)]) hx hb dL_law_364 hl (by decide) rfl (fun ls hl => ?_)
  refine lv_aload_n hx hb dL_law_366 rfl (lv_at hl 2 rfl) ?_
  refine lv_aload_n hx hb dL_law_367 rfl (lv_at hl 4 rfl) ?_
  refine lv_iload_n hx hb dL_law_368 rfl (lv_at hl 1 rfl) ?_
  refine lv_iconst (v := 1) hx hb dL_law_369 (by decide) ?_
  refine lv_iadd hx hb dL_law_370 ?_
  refine va_sld hx hb hX hbl hbA hW.S h1 dL_law_371 ?_
  refine g_f (g_V (own := "MazeBoardLaw") (y := yX7_volume) (As := [.int (xs (nI i + 1).toNatClampNeg)]) (rest := []) ⟨hx, hb, hml, hown, hB⟩ hKm hE hW.symm (c_X7_volume l D cy' ad' LMl H.size lrMl B (xs (nI i + 1).toNatClampNeg) P.2.2.1) (id := 20) rfl (lrMl 20 (by decide) (by decide)) rfl mw_4_56 mw_4_57 mw_4_58 mw_1_7 mw_4_59 rfl yd_X7_volume ⟨rfl, rfl⟩ ⟨Nat.le_of_ble_eq_true rfl, Nat.le_of_ble_eq_true rfl⟩ rfl hl.1 rfl (Nat.le_of_ble_eq_true rfl) dL_law_372 ⟨Nat.le_of_ble_eq_true rfl, Nat.le_of_ble_eq_true rfl⟩) hW.symm (fun r M1 H locs hp hW => ?_)
  obtain ⟨hr1, hM1⟩ := hp
  rw [hM1] at hW
  clear hM1
  have hr1 := hr1.trans P.1.symm
  subst hr1
  have hW := hW.symm
  refine lv_f2d hx hb dL_law_375 (vf64 P.2.2.2) ?_
  refine lv_dstore (lv' := [(6, .double (FP.f2d (sp_X6_volume A (xs (nI i + 1).toNatClampNeg)))), (4, .double (FP.f2d (sp_X6_volume A (xs (nI i + 1).toNatClampNeg)))), (3, .int (nI i)), (2, .ref (ad' 20)), (1, .ref (ad 0)), (0, .ref b)]) hx hb dL_law_376 hl (by decide) rfl (fun ls hl => ?_)
  have kg : W p l e room_1 s m #[Value.ref b] below meth c H locs 30 533 (lw_Z below #[Value.ref b] s) (F0 m 404 ls []) := by
    refine lv_goto (tgt := 450) hx hb dL_law_404 (by decide) ?_
    exact kend F _ _ _ _ _ (by omega) hR hI hW (lv_sub hl [2, 3, 4, 5] rfl)
  refine lv_dload hx hb dL_law_378 (lv_at hl 1 rfl) ?_
  refine lv_dload hx hb dL_law_380 (lv_at hl 0 rfl) ?_
  refine lv_dcmp hx hb dL_law_382 ?_
  refine lv_if_eq (tgt := 404) hx hb dL_law_383 (by decide) (fun _ => kg) (fun z => ?_)
  refine lv_dload hx hb dL_law_386 (lv_at hl 1 rfl) ?_
  refine lv_dload hx hb dL_law_388 (lv_at hl 1 rfl) ?_
  refine lv_dcmp hx hb dL_law_390 ?_
  refine lv_if_eq (tgt := 402) hx hb dL_law_391 (by decide) (fun z9 => absurd z9 z) (fun _ => ?_)
  refine lv_dload hx hb dL_law_394 (lv_at hl 0 rfl) ?_
  refine lv_dload hx hb dL_law_396 (lv_at hl 0 rfl) ?_
  refine lv_dcmp hx hb dL_law_398 ?_
  exact lv_if_ne (tgt := 404) hx hb dL_law_399 (by decide) (fun _ => kg) (fun z9 => absurd z9 z)
set_option maxHeartbeats 2000000 in
theorem arm_11 {p : Program} {l : Launch} {e : Env} {s : State} {m : MethodId} {below : List Frame} {meth : Method} {c : Code} {b L i F : Nat} {xs : Nat → Int32} {D : va_G} {cy ad cy' ad' : Nat → Nat} {A B : Mem} {H : Heap} {locs : List Loc} {ls : Array Slot} (hx : p.tables.exec = Jvm.exec) (hb : c.code = code) (hml : c.maxLocals = 8) (hown : s.vm.findClass "MazeBoardLaw" = some m.cls) (hB : ∀ w ∈ BG, w.before #[Value.ref b] s = true) (hX : va_X b L xs s s.heap) (hbl : b < s.heap.size) (hbA : ¬ (fun q : Nat => s.heap.size ≤ q) b) (hKx : KK D cy LXl s) (hKm : KK D cy' LMl s) (hE : EX (fun q => s.heap.size ≤ q) s) (hR : Rl A B) (hI : Inv F A) (hF : F + 60 ≤ 30720) (h1 : vp_in (nI i + 1) L) (h2 : vp_in (nI i + 2) L) (hW : Lg D cy ad LXl cy' ad' LMl s A B H locs) (hl : lv_has ls 8 [(3, .int (nI i)), (2, .ref (ad' 20)), (1, .ref (ad 0)), (0, .ref b)]) (kend : ∀ (F1 : Nat) (A1 B1 : Mem) (H1 : Heap) (locs1 : List Loc) (ls1 : Array Slot), F1 ≤ F + 60 → Rl A1 B1 → Inv F1 A1 → Lg D cy ad LXl cy' ad' LMl s A1 B1 H1 locs1 → lv_has ls1 8 [(3, .int (nI i)), (2, .ref (ad' 20)), (1, .ref (ad 0)), (0, .ref b)] → W p l e room_1 s m #[Value.ref b] below meth c H1 locs1 30 533 (lw_Z below #[Value.ref b] s) (F0 m 450 ls1 [])) : W p l e room_1 s m #[Value.ref b] below meth c H locs 30 533 (lw_Z below #[Value.ref b] s) (F0 m 407 ls []) := by
  have P := P_sound hR hI
  refine lv_aload_n hx hb dL_law_407 rfl (lv_at hl 2 rfl) ?_
  refine g_f (g_V (own := "MazeBoardLaw") (y := yX6_sound) (As := []) (rest := []) ⟨hx, hb, hml, hown, hB⟩ hKx hE hW (c_X6_sound l D cy ad LXl H.size lrX A P.2.1) (id := 0) rfl (lrX 0 (by decide) (by decide)) rfl mw_3_9 mw_3_10 mw_3_11 mw_1_1 mw_3_12 rfl yd_X6_sound ⟨rfl, rfl⟩ ⟨Nat.le_of_ble_eq_true rfl, Nat.le_of_ble_eq_true rfl⟩ rfl hl.1 rfl (Nat.le_of_ble_eq_true rfl) dL_law_408 ⟨Nat.le_of_ble_eq_true rfl, Nat.le_of_ble_eq_true rfl⟩) hW (fun r M1 H locs hp hW => ?_)
  obtain ⟨hr1, hM1⟩ := hp
  rw [hM1] at hW
  clear hM1
  subst hr1
  refine lv_f2d hx hb dL_law_411 (vf64 P.2.2.2) ?_
  refine lv_dstore (lv' := [(4, .double (FP.f2d (sp_X6_sound A))), (3, .int (nI i)), (2, .ref (ad' 20)), (1, .ref (ad 0)), (0, .ref b)]) hx hb dL_law_412 hl (by decide) rfl (fun ls hl => ?_)
  refine lv_aload_n hx hb dL_law_414 rfl (lv_at hl 2 rfl) ?_
  refine g_f (g_V (own := "MazeBoardLaw") (y := yX7_sound) (As := []) (rest := []) ⟨hx, hb, hml, hown, hB⟩ hKm hE hW.symm (c_X7_sound l D cy' ad' LMl H.size lrMl B P.2.2.1) (id := 20) rfl (lrMl 20 (by decide) (by decide)) rfl mw_4_60 mw_4_61 mw_4_62 mw_1_7 mw_4_63 rfl yd_X7_sound ⟨rfl, rfl⟩ ⟨Nat.le_of_ble_eq_true rfl, Nat.le_of_ble_eq_true rfl⟩ rfl hl.1 rfl (Nat.le_of_ble_eq_true rfl) dL_law_415 ⟨Nat.le_of_ble_eq_true rfl, Nat.le_of_ble_eq_true rfl⟩) hW.symm (fun r M1 H locs hp hW => ?_)
  obtain ⟨hr1, hM1⟩ := hp
  rw [hM1] at hW
  clear hM1
  have hr1 := hr1.trans P.1.symm
  subst hr1
  have hW := hW.symm
  refine lv_f2d hx hb dL_law_418 (vf64 P.2.2.2) ?_
  refine lv_dstore (lv' := [(6, .double (FP.f2d (sp_X6_sound A))), (4, .double (FP.f2d (sp_X6_sound A))), (3, .int (nI i)), (2, .ref (ad' 20)), (1, .ref (ad 0)), (0, .ref b)]) hx hb dL_law_419 hl (by decide) rfl (fun ls hl => ?_)
  have kg : W p l e room_1 s m #[Value.ref b] below meth c H locs 30 533 (lw_Z below #[Value.ref b] s) (F0 m 447 ls []) := by
    refine lv_goto (tgt := 450) hx hb dL_law_447 (by decide) ?_
    exact kend F _ _ _ _ _ (by omega) hR hI hW (lv_sub hl [2, 3, 4, 5] rfl)
  refine lv_dload hx hb dL_law_421 (lv_at hl 1 rfl) ?_
  refine lv_dload hx hb dL_law_423 (lv_at hl 0 rfl) ?_
  refine lv_dcmp hx hb dL_law_425 ?_
  refine lv_if_eq (tgt := 447) hx hb dL_law_426 (by decide) (fun _ => kg) (fun z => ?_)
  refine lv_dload hx hb dL_law_429 (lv_at hl 1 rfl) ?_
  refine lv_dload hx hb dL_law_431 (lv_at hl 1 rfl) ?_
  refine lv_dcmp hx hb dL_law_433 ?_
  refine lv_if_eq (tgt := 445) hx hb dL_law_434 (by decide) (fun z9 => absurd z9 z) (fun _ => ?_)
  refine lv_dload hx hb dL_law_437 (lv_at hl 0 rfl) ?_
  refine lv_dload hx hb dL_law_439 (lv_at hl 0 rfl) ?_
  refine lv_dcmp hx hb dL_law_441 ?_
  exact lv_if_ne (tgt := 447) hx hb dL_law_442 (by decide) (fun _ => kg) (fun z9 => absurd z9 z)
