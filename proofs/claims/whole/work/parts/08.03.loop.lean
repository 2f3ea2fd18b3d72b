theorem len_cmp {L i : Nat} (hL : L ≤ 1536) (hi : i ≤ 2000) : nI L - 3 < nI i ↔ L < i + 3 := by
  rw [Int32.lt_iff_toInt_lt, Int32.toInt_sub, nI_toInt (by omega), nI_toInt (by omega), show (3 : Int32).toInt = 3 from rfl, Int.bmod_eq_of_le (by omega) (by omega)]
  omega
theorem ix_add {L i k : Nat} {x : Int32} (hk : k ≤ 2) (hx : x = nI k) (h : i + k < L) (hL : L ≤ 1536) : vp_in (nI i + x) L := by
  have e : nI i + x = nI (i + k) := by
    subst hx
    rcases (show k = 0 ∨ k = 1 ∨ k = 2 by omega) with rfl | rfl | rfl
    · apply Int32.toInt_inj.mp
      rw [sm_add (by rw [nI_toInt (by omega)]; omega) (by decide), nI_toInt (by omega), nI_toInt (by omega), nI_toInt (by omega)]
      rfl
    · rw [nI_succ i]; rfl
    · apply Int32.toInt_inj.mp
      rw [sm_add (by rw [nI_toInt (by omega)]; omega) (by decide), nI_toInt (by omega), nI_toInt (by omega), nI_toInt (by omega)]
      rfl
  rw [e]
  exact vp_in_nI h (by omega)
set_option maxHeartbeats 2000000 in
theorem law_loop {p : Program} {l : Launch} {e : Env} {s : State} {m : MethodId} {below : List Frame} {meth : Method} {c : Code} {b L : Nat} {xs : Nat → Int32} {D : va_G} {cy ad cy' ad' : Nat → Nat} (hL : L ≤ 1536) (C0 : lw_At p s m meth c b L xs) (hKx : KK D cy LXl s) (hKm : KK D cy' LMl s) (hE : EX (fun q => s.heap.size ≤ q) s) :
    ∀ (n i F : Nat) (A B : Mem) (H : Heap) (locs : List Loc) (ls : Array Slot), i ≤ L + 3 → L + 4 ≤ i + n → F ≤ 20 * i → Rl A B → Inv F A → Lg D cy ad LXl cy' ad' LMl s A B H locs → lv_has ls 8 [(3, .int (nI i)), (2, .ref (ad' 20)), (1, .ref (ad 0)), (0, .ref b)] → W p l e room_1 s m #[Value.ref b] below meth c H locs 30 533 (lw_Z below #[Value.ref b] s) (F0 m 18 ls []) := by
  obtain ⟨hx, hb, hr, hml, hown, hts, hX, hbl, hlocks, hgv⟩ := C0
  have hb : c.code = cL_law := hb
  have hown : s.vm.findClass "MazeBoardLaw" = some m.cls := hown
  have hB : ∀ w ∈ BG, w.before #[Value.ref b] s = true := fun w h => hts w (BG_tbl h)
  have hbA : ¬ (fun q : Nat => s.heap.size ≤ q) b := Nat.not_le.mpr hbl
  intro n
  induction n with
  | zero => intro i F A B H locs ls h1 h2; omega
  | succ n ih =>
    intro i F A B H locs ls hi hin hF hR hI hW hl
    refine lv_iload_n hx hb dL_law_18 rfl (lv_at hl 0 rfl) ?_
    refine lv_aload_n hx hb dL_law_19 rfl (lv_at hl 3 rfl) ?_
    refine va_slen hx hb hX hbl hbA hW.S dL_law_20 ?_
    refine lv_iconst (v := 3) hx hb dL_law_21 (by decide) ?_
    refine lv_isub hx hb dL_law_22 ?_
    refine lv_icmp_gt (tgt := 456) hx hb dL_law_23 (by decide) (fun z => ?_) (fun z => ?_)
    · refine lv_iconst (v := 1) hx hb dL_law_456 (by decide) ?_
      refine va_forget (fun q hq => hW.S.2.2 q hq) ?_
      refine W.widen (k := 600000) (n := 7302249) (by decide) (by decide) ?_
      exact lw_ret hx hb hr hlocks dL_law_457
    · have hi3 : i + 3 ≤ L := by
        have := mt (len_cmp (L := L) (i := i) hL (by omega)).mpr z
        omega
      have hF1 : F + 60 ≤ 30720 := by omega
      have h0 : vp_in (nI i) L := vp_in_nI (by omega) (by omega)
      have h1 : vp_in (nI i + 1) L := ix_add (k := 1) (by decide) rfl (by omega) hL
      have h2 : vp_in (nI i + 2) L := ix_add (k := 2) (by decide) rfl (by omega) hL
      have kend : ∀ (F1 : Nat) (A1 B1 : Mem) (H1 : Heap) (locs1 : List Loc) (ls1 : Array Slot), F1 ≤ F + 60 → Rl A1 B1 → Inv F1 A1 → Lg D cy ad LXl cy' ad' LMl s A1 B1 H1 locs1 → lv_has ls1 8 [(3, .int (nI i)), (2, .ref (ad' 20)), (1, .ref (ad 0)), (0, .ref b)] → W p l e room_1 s m #[Value.ref b] below meth c H1 locs1 30 533 (lw_Z below #[Value.ref b] s) (F0 m 450 ls1 []) := by
        intro F1 A1 B1 H1 locs1 ls1 hF2 hR1 hI1 hW1 hl1
        have e3 : nI i + Int32.ofInt 3 = nI (i + 3) := by
          apply Int32.toInt_inj.mp
          rw [show Int32.ofInt 3 = nI 3 from rfl, sm_add (by rw [nI_toInt (by omega)]; omega) (by decide), nI_toInt (by omega), nI_toInt (by omega), nI_toInt (by omega)]
          rfl
        refine lv_iinc (v := nI (i + 3)) (lv' := [(3, .int (nI (i + 3))), (2, .ref (ad' 20)), (1, .ref (ad 0)), (0, .ref b)]) hx hb dL_law_450 hl1 (k := 0) rfl e3 (by decide) rfl (fun ls2 hl2 => ?_)
        refine lv_goto (tgt := 18) hx hb dL_law_453 (by decide) ?_
        exact ih (i + 3) F1 A1 B1 H1 locs1 ls2 (by omega) (by omega) (by omega) hR1 hI1 hW1 hl2
      refine lv_aload_n hx hb dL_law_26 rfl (lv_at hl 3 rfl) ?_
      refine lv_iload_n hx hb dL_law_27 rfl (lv_at hl 0 rfl) ?_
      refine va_sld hx hb hX hbl hbA hW.S h0 dL_law_28 ?_
      refine lv_bipush (v := 15) hx hb dL_law_29 (by decide) ?_
      refine lv_iand hx hb dL_law_31 ?_
      obtain ⟨k, hk, ek⟩ := and15 (xs (nI i).toNatClampNeg)
      rw [ek]
      rcases (show k = 0 ∨ k = 1 ∨ k = 2 ∨ k = 3 ∨ k = 4 ∨ k = 5 ∨ k = 6 ∨ k = 7 ∨ k = 8 ∨ k = 9 ∨ k = 10 ∨ k = 11 ∨ k = 12 ∨ k = 13 ∨ k = 14 ∨ k = 15 by omega) with rfl | rfl | rfl | rfl | rfl | rfl | rfl | rfl | rfl | rfl | rfl | rfl | rfl | rfl | rfl | rfl
      · refine lv_tableIn (tgt := 96) hx hb dL_law_32 (by decide) (by decide) rfl (by decide) ?_
        exact arm_0 hx hb hml hown hB hX hbl hbA hKx hKm hE hR hI hF1 h1 h2 hW hl kend
      · refine lv_tableIn (tgt := 109) hx hb dL_law_32 (by decide) (by decide) rfl (by decide) ?_
        exact arm_1 hx hb hml hown hB hX hbl hbA hKx hKm hE hR hI hF1 h1 h2 hW hl kend
      · refine lv_tableIn (tgt := 122) hx hb dL_law_32 (by decide) (by decide) rfl (by decide) ?_
        exact arm_2 hx hb hml hown hB hX hbl hbA hKx hKm hE hR hI hF1 h1 h2 hW hl kend
      · refine lv_tableIn (tgt := 145) hx hb dL_law_32 (by decide) (by decide) rfl (by decide) ?_
        exact arm_3 hx hb hml hown hB hX hbl hbA hKx hKm hE hR hI hF1 h1 h2 hW hl kend
      · refine lv_tableIn (tgt := 156) hx hb dL_law_32 (by decide) (by decide) rfl (by decide) ?_
        exact arm_4 hx hb hml hown hB hX hbl hbA hKx hKm hE hR hI hF1 h1 h2 hW hl kend
      · refine lv_tableIn (tgt := 179) hx hb dL_law_32 (by decide) (by decide) rfl (by decide) ?_
        exact arm_5 hx hb hml hown hB hX hbl hbA hKx hKm hE hR hI hF1 h1 h2 hW hl kend
      · refine lv_tableIn (tgt := 202) hx hb dL_law_32 (by decide) (by decide) rfl (by decide) ?_
        exact arm_6 hx hb hml hown hB hX hbl hbA hKx hKm hE hR hI hF1 h1 h2 hW hl kend
      · refine lv_tableIn (tgt := 235) hx hb dL_law_32 (by decide) (by decide) rfl (by decide) ?_
        exact arm_7 hx hb hml hown hB hX hbl hbA hKx hKm hE hR hI hF1 h1 h2 hW hl kend
      · refine lv_tableIn (tgt := 288) hx hb dL_law_32 (by decide) (by decide) rfl (by decide) ?_
        exact arm_8 hx hb hml hown hB hX hbl hbA hKx hKm hE hR hI hF1 h1 h2 hW hl kend
      · refine lv_tableIn (tgt := 321) hx hb dL_law_32 (by decide) (by decide) rfl (by decide) ?_
        exact arm_9 hx hb hml hown hB hX hbl hbA hKx hKm hE hR hI hF1 h1 h2 hW hl kend
      · refine lv_tableIn (tgt := 354) hx hb dL_law_32 (by decide) (by decide) rfl (by decide) ?_
        exact arm_10 hx hb hml hown hB hX hbl hbA hKx hKm hE hR hI hF1 h1 h2 hW hl kend
      · refine lv_tableIn (tgt := 407) hx hb dL_law_32 (by decide) (by decide) rfl (by decide) ?_
        exact arm_11 hx hb hml hown hB hX hbl hbA hKx hKm hE hR hI hF1 h1 h2 hW hl kend
      · exact lv_tableOut (tgt := 450) hx hb dL_law_32 (by decide) (by decide) (kend F _ _ _ _ _ (by omega) hR hI hW hl)
      · exact lv_tableOut (tgt := 450) hx hb dL_law_32 (by decide) (by decide) (kend F _ _ _ _ _ (by omega) hR hI hW hl)
      · exact lv_tableOut (tgt := 450) hx hb dL_law_32 (by decide) (by decide) (kend F _ _ _ _ _ (by omega) hR hI hW hl)
      · exact lv_tableOut (tgt := 450) hx hb dL_law_32 (by decide) (by decide) (kend F _ _ _ _ _ (by omega) hR hI hW hl)
