/-! The answers that change nothing. -/
theorem outn {x : Int32} {n : Int32} (h : x < 0 ∨ ¬ x < n) (k : Int32) (h0 : 0 ≤ k) (h1 : k < n) : ¬ x = k := by
  rintro rfl
  rcases h with h | h
  · exact absurd h0 (Int32.not_le.mpr h)
  · exact h h1
theorem P_look {A B : Mem} {F : Nat} (hR : Rl A B) (hI : Inv F A) (x : Int32) : sp_X6_look A x = sp_X7_look B x ∧ vc_X7_look B x := by
  obtain ⟨s2, s3, s4, s5, s6, s7, s8, s9, s10, s11, s12, s13, -⟩ := hR.s
  have hl : sp_X7_left B = gI A 2 1 := by
    have q : cntC (gI B 22) 117 = cntC (gI A 3) 117 := cntC_congr 117 (fun j hj => hR.1 22 j (by show decide (j < 117) = true; exact decide_eq_true hj))
    rw [(P_left B).1, hI.1.2.1, q]
  have vl := (P_left B).2
  refine ⟨?_, ?_⟩
  · by_cases z : x < 0 ∨ ¬ x < 12
    · have o := outn z
      unfold sp_X6_look
      rw [if_neg (o 0 (by decide) (by decide)), if_neg (o 1 (by decide) (by decide)), if_neg (o 2 (by decide) (by decide)), if_neg (o 3 (by decide) (by decide)), if_neg (o 4 (by decide) (by decide)), if_neg (o 5 (by decide) (by decide)), if_neg (o 6 (by decide) (by decide)), if_neg (o 7 (by decide) (by decide)), if_neg (o 8 (by decide) (by decide)), if_neg (o 9 (by decide) (by decide)), if_neg (o 10 (by decide) (by decide)), if_neg (o 11 (by decide) (by decide))]
      unfold sp_X7_look
      by_cases y : 6 ≤ x
      · rw [if_pos y]
        by_cases w : 9 ≤ x
        · rw [if_pos w, if_neg (o 9 (by decide) (by decide)), if_neg (o 10 (by decide) (by decide)), if_neg (o 11 (by decide) (by decide))]
          rfl
        · exfalso
          rcases z with z | z
          · exact absurd (Int32.lt_of_le_of_lt y z) (by decide)
          · exact z (Int32.lt_trans (Int32.not_le.mp w) (by decide))
      · rw [if_neg y, if_neg (o 0 (by decide) (by decide)), if_neg (o 1 (by decide) (by decide)), if_neg (o 2 (by decide) (by decide)), if_neg (o 3 (by decide) (by decide)), if_neg (o 4 (by decide) (by decide)), if_neg (o 5 (by decide) (by decide))]
        rfl
    · obtain ⟨k, hk, rfl⟩ := asn (x := x) 12 (by decide) (fun h => z (Or.inl h)) (Classical.byContradiction fun h => z (Or.inr h))
      rcases (show k = 0 ∨ k = 1 ∨ k = 2 ∨ k = 3 ∨ k = 4 ∨ k = 5 ∨ k = 6 ∨ k = 7 ∨ k = 8 ∨ k = 9 ∨ k = 10 ∨ k = 11 by omega) with rfl | rfl | rfl | rfl | rfl | rfl | rfl | rfl | rfl | rfl | rfl | rfl
      · show (if gI A 1 3 = 0 then (0 : Int32) else 1) = (if gI B 20 3 = 0 then (0 : Int32) else 1)
        rw [s3]
      · exact s4.symm
      · exact s5.symm
      · exact s7.symm
      · exact s8.symm
      · exact s2.symm
      · exact hl.symm
      · exact s9.symm
      · exact s10.symm
      · exact s11.symm
      · exact s12.symm
      · exact s13.symm
  · unfold vc_X7_look
    repeat' split
    all_goals first | trivial | exact vl
theorem le_4 (x : Int32) : x ≤ 4 ↔ x < 5 := by
  rw [Int32.le_iff_toInt_le, Int32.lt_iff_toInt_lt, show (4 : Int32).toInt = 4 from rfl, show (5 : Int32).toInt = 5 from rfl]
  omega
theorem le_2 (x : Int32) : x ≤ 2 ↔ x < 3 := by
  rw [Int32.le_iff_toInt_le, Int32.lt_iff_toInt_lt, show (2 : Int32).toInt = 2 from rfl, show (3 : Int32).toInt = 3 from rfl]
  omega
theorem le_5 (x : Int32) : x ≤ 5 ↔ x < 6 := by
  rw [Int32.le_iff_toInt_le, Int32.lt_iff_toInt_lt, show (5 : Int32).toInt = 5 from rfl, show (6 : Int32).toInt = 6 from rfl]
  omega
theorem le_12 (x : Int32) : x ≤ 12 ↔ x < 13 := by
  rw [Int32.le_iff_toInt_le, Int32.lt_iff_toInt_lt, show (12 : Int32).toInt = 12 from rfl, show (13 : Int32).toInt = 13 from rfl]
  omega
theorem le_8 (x : Int32) : x ≤ 8 ↔ x < 9 := by
  rw [Int32.le_iff_toInt_le, Int32.lt_iff_toInt_lt, show (8 : Int32).toInt = 8 from rfl, show (9 : Int32).toInt = 9 from rfl]
  omega
theorem le_51 (x : Int32) : x ≤ 51 ↔ x < 52 := by
  rw [Int32.le_iff_toInt_le, Int32.lt_iff_toInt_lt, show (51 : Int32).toInt = 51 from rfl, show (52 : Int32).toInt = 52 from rfl]
  omega
theorem le_35 (x : Int32) : x ≤ 35 ↔ x < 36 := by
  rw [Int32.le_iff_toInt_le, Int32.lt_iff_toInt_lt, show (35 : Int32).toInt = 35 from rfl, show (36 : Int32).toInt = 36 from rfl]
  omega
theorem P_actor {A B : Mem} (hR : Rl A B) (x y : Int32) : sp_X6_actor A x y = sp_X7_actor B x y ∧ vc_X6_actor A x y ∧ vc_X7_actor B x y := by
  unfold sp_X6_actor sp_X7_actor vc_X6_actor vc_X7_actor
  by_cases z : x < 0
  · simp only [if_pos z]
    exact ⟨rfl, trivial, trivial⟩
  · simp only [if_neg z]
    by_cases w : x < 5
    · have w' : ¬ 4 < x := Int32.not_lt.mpr ((le_4 x).mpr w)
      simp only [if_pos w, if_neg w']
      obtain ⟨a, ha, rfl⟩ := asn (x := x) 5 (by decide) z w
      have ea : (nI a).toNatClampNeg = a := nI_cl (by omega)
      have rv := (ra_pos a ha).2
      obtain ⟨d0, d1, d2, d4, d6, d5, -⟩ := dA ha
      have b0 : gI B 23 a = gI A (5 + a) 0 := hR.1 23 a d0
      have b1 : gI B 24 a = gI A (5 + a) 1 := hR.1 24 a d1
      have b2 : gI B 25 a = gI A (5 + a) 2 := hR.1 25 a d2
      have b4 : gI B 27 a = gI A (5 + a) 4 := hR.1 27 a d4
      have b6 : gI B 28 a = gI A (5 + a) 6 := hR.1 28 a d6
      have b5 : gI B 29 a = gI A (5 + a) 5 := hR.1 29 a d5
      rw [ea, b0, b1, b2, b4, b5, b6]
      refine ⟨?_, rv, ?_⟩
      · by_cases u : y < 0 ∨ ¬ y < 6
        · have o := outn u
          rw [if_neg (o 0 (by decide) (by decide)), if_neg (o 1 (by decide) (by decide)), if_neg (o 2 (by decide) (by decide)), if_neg (o 3 (by decide) (by decide)), if_neg (o 4 (by decide) (by decide)), if_neg (o 5 (by decide) (by decide))]
          by_cases u0 : y < 0
          · rw [if_pos u0]; rfl
          · rw [if_neg u0, if_neg (fun h => (u.resolve_left u0) ((le_5 y).mp h))]; rfl
        · obtain ⟨k, hk, rfl⟩ := asn (x := y) 6 (by decide) (fun h => u (Or.inl h)) (Classical.byContradiction fun h => u (Or.inr h))
          rcases (show k = 0 ∨ k = 1 ∨ k = 2 ∨ k = 3 ∨ k = 4 ∨ k = 5 by omega) with rfl | rfl | rfl | rfl | rfl | rfl <;> rfl
      · repeat' split
        all_goals first | trivial | exact rv
    · have w' : 4 < x := Int32.not_le.mp (fun h => w ((le_4 x).mp h))
      simp only [if_neg w, if_pos w']
      exact ⟨rfl, trivial, trivial⟩
theorem P_progress {A B : Mem} {F : Nat} (hR : Rl A B) (hI : Inv F A) (x : Int32) : sp_X6_progress A x = sp_X7_progress B x ∧ vc_X6_progress A x ∧ vc_X7_progress B x ∧ nn (sp_X6_progress A x) := by
  unfold sp_X6_progress sp_X7_progress vc_X6_progress vc_X7_progress
  by_cases z : x < 0
  · simp only [if_pos z]
    exact ⟨rfl, trivial, trivial, nn_zero⟩
  · simp only [if_neg z, le_4]
    by_cases w : x < 5
    · simp only [if_pos w]
      obtain ⟨a, ha, rfl⟩ := asn (x := x) 5 (by decide) z w
      have ea : (nI a).toNatClampNeg = a := nI_cl (by omega)
      have rv := (ra_pos a ha).2
      rw [ea]
      refine ⟨(hR.2.1 26 a (dA ha).2.2.2.2.2.2.2.2).symm, rv, rv, ?_⟩
      by_cases a0 : a = 0
      · subst a0
        exact hI.1.2.2.1.2.1.1
      · exact (hI.1.2.2.2.1 (5 + a) (by omega) (by omega)).2.1.1
    · simp only [if_neg w]
      exact ⟨rfl, trivial, trivial, nn_zero⟩
theorem P_volume {A B : Mem} {F : Nat} (hR : Rl A B) (hI : Inv F A) (x : Int32) : sp_X6_volume A x = sp_X7_volume B x ∧ vc_X6_volume A x ∧ vc_X7_volume B x ∧ nn (sp_X6_volume A x) := by
  unfold sp_X6_volume sp_X7_volume vc_X6_volume vc_X7_volume
  by_cases z : x < 0
  · simp only [if_pos z]
    exact ⟨rfl, trivial, trivial, nn_zero⟩
  · simp only [if_neg z, le_2]
    by_cases w : x < 3
    · simp only [if_pos w]
      obtain ⟨a, ha, rfl⟩ := asn (x := x) 3 (by decide) z w
      have ea : (nI a).toNatClampNeg = a := nI_cl (by omega)
      have rv := (i3 a ha).2.2
      rw [ea]
      exact ⟨(hR.2.1 34 a (dV ha).2.2).symm, rv, rv, (hI.2.1.2.2.2 a ha).1⟩
    · simp only [if_neg w]
      exact ⟨rfl, trivial, trivial, nn_zero⟩
theorem P_cell {A B : Mem} (hR : Rl A B) (x y : Int32) : sp_X6_cell A x y = sp_X7_cell B x y ∧ vc_X6_cell A x y ∧ vc_X7_cell B x y := by
  unfold sp_X6_cell vc_X6_cell sp_X2_whatIs vc_X2_whatIs sp_X7_cell vc_X7_cell
  by_cases z : x < 0
  · simp only [if_pos z]
    exact ⟨rfl, trivial, trivial⟩
  · simp only [if_neg z]
    by_cases w : x < 13
    · have w1 : ¬ 13 ≤ x := Int32.not_le.mpr w
      have w2 : ¬ 12 < x := Int32.not_lt.mpr ((le_12 x).mpr w)
      simp only [if_neg w1, if_neg w2]
      by_cases u : y < 0
      · simp only [if_pos u]
        exact ⟨rfl, trivial, trivial⟩
      · simp only [if_neg u, le_8]
        by_cases v : y < 9
        · simp only [if_pos v]
          obtain ⟨c, hc, rfl⟩ := asn (x := x) 13 (by decide) z w
          obtain ⟨r, hr, rfl⟩ := asn (x := y) 9 (by decide) u v
          obtain ⟨g1, g2, g3, g4⟩ := g_ix c hc r hr
          rw [g1, g2]
          refine ⟨(hR.1 22 (13 * r + c) ?_).symm, g3, g4⟩
          show decide (13 * r + c < 117) = true
          exact decide_eq_true (by omega)
        · simp only [if_neg v]
          exact ⟨rfl, trivial, trivial⟩
    · have w1 : 13 ≤ x := Int32.not_lt.mp w
      have w2 : 12 < x := Int32.not_le.mp (fun h => w ((le_12 x).mp h))
      simp only [if_pos w1, if_pos w2]
      exact ⟨rfl, trivial, trivial⟩
theorem and15 (y : Int32) : ∃ n, n < 16 ∧ y &&& 15 = nI n := by
  refine ⟨y.toBitVec.toNat % 16, Nat.mod_lt _ (by decide), ?_⟩
  apply Int32.toBitVec_inj.mp
  apply BitVec.eq_of_toNat_eq
  rw [Int32.toBitVec_and, BitVec.toNat_and, show (15 : Int32).toBitVec.toNat = 2 ^ 4 - 1 from rfl, Nat.and_two_pow_sub_one_eq_mod]
  show _ = (BitVec.ofNat 32 (y.toBitVec.toNat % 16)).toNat
  rw [BitVec.toNat_ofNat]
  omega
theorem P_smp {A : Mem} (hV : VO A) {v : Nat} (hv : v < 3) : fb (-(16 * 2 ^ 149)) (16 * 2 ^ 149) (sp_X5_sample A (12 + v)) ∧ vc_X5_sample A (12 + v) := by
  unfold sp_X5_sample vc_X5_sample
  obtain ⟨n, hn, en⟩ := and15 (gI A (12 + v) 0 >>> (8 &&& 31))
  rw [en]
  have h := fb_high n hn
  have s := fb_sample h (hV v hv)
  exact ⟨s, nn_vf h.1, nn_vf s.1⟩
theorem P_sound {A B : Mem} {F : Nat} (hR : Rl A B) (hI : Inv F A) : sp_X6_sound A = sp_X7_sound B ∧ vc_X6_sound A ∧ vc_X7_sound B ∧ nn (sp_X6_sound A) := by
  have hV := hI.2.1.2.2.2
  have sX : ∀ n v f, v < 3 → sp_X6_sound_B4 (n + 1) A f (nI v) = sp_X6_sound_B4 n A (FP.fadd f (sp_X5_sample A (12 + v))) (nI (v + 1)) ∧ (vf_n32 (FP.fadd f (sp_X5_sample A (12 + v))) → vc_X6_sound_B4 n A (FP.fadd f (sp_X5_sample A (12 + v))) (nI (v + 1)) → vc_X6_sound_B4 (n + 1) A f (nI v)) := by
    intro n v f hv
    obtain ⟨j1, j2, j3⟩ := i3 v hv
    have ev : (nI v).toNatClampNeg = v := nI_cl (by omega)
    constructor
    · rw [show sp_X6_sound_B4 (n + 1) A f (nI v) = if 3 ≤ nI v then f else (sp_X6_sound_n2 (sp_X6_sound_B4 n) A (nI v) (FP.fadd f (sp_X5_sample A (12 + (nI v).toNatClampNeg)))) from rfl, if_neg j1, ev]
      unfold sp_X6_sound_n2 sp_X6_sound_n1
      rw [j2]
    · intro h1 h2
      show if 3 ≤ nI v then True else (vp_in (nI v) 3 ∧ ((vc_X5_sample A (12 + (nI v).toNatClampNeg)) ∧ ((vf_n32 (FP.fadd f (sp_X5_sample A (12 + (nI v).toNatClampNeg)))) ∧ (vc_X6_sound_n2 (vc_X6_sound_B4 n) A (nI v) (FP.fadd f (sp_X5_sample A (12 + (nI v).toNatClampNeg)))))))
      rw [if_neg j1, ev]
      unfold vc_X6_sound_n2 vc_X6_sound_n1
      rw [j2]
      exact ⟨j3, (P_smp hV hv).2, h1, h2⟩
  have sM : ∀ n v f, v < 3 → sp_X7_sound_B4 (n + 1) B f (nI v) = sp_X7_sound_B4 n B (FP.fadd f (sp_X5_sample A (12 + v))) (nI (v + 1)) ∧ (vf_n32 (FP.fadd f (sp_X5_sample A (12 + v))) → vc_X7_sound_B4 n B (FP.fadd f (sp_X5_sample A (12 + v))) (nI (v + 1)) → vc_X7_sound_B4 (n + 1) B f (nI v)) := by
    intro n v f hv
    obtain ⟨j1, j2, j3⟩ := i3 v hv
    have ev : (nI v).toNatClampNeg = v := nI_cl (by omega)
    obtain ⟨d1, d2, d3⟩ := dV hv
    have es : FP.fmul (FP.fsub (FP.i2f (((gI B 32 v) >>> (8 &&& 31)) &&& 15)) 1089470464) (gF B 34 v) = sp_X5_sample A (12 + v) := by
      rw [hR.1 32 v d1, hR.2.1 34 v d3]; rfl
    have vs := (P_smp hV hv).2
    constructor
    · rw [show sp_X7_sound_B4 (n + 1) B f (nI v) = if 3 ≤ nI v then f else (sp_X7_sound_n2 (sp_X7_sound_B4 n) B (nI v) (FP.fadd f (FP.fmul (FP.fsub (FP.i2f (((gI B 32 (nI v).toNatClampNeg) >>> (8 &&& 31)) &&& 15)) 1089470464) (gF B 34 (nI v).toNatClampNeg)))) from rfl, if_neg j1, ev, es]
      unfold sp_X7_sound_n2 sp_X7_sound_n1
      rw [j2]
    · intro h1 h2
      show if 3 ≤ nI v then True else (vp_in (nI v) 3 ∧ ((vf_n32 (FP.fsub (FP.i2f (((gI B 32 (nI v).toNatClampNeg) >>> (8 &&& 31)) &&& 15)) 1089470464)) ∧ (vp_in (nI v) 3 ∧ ((vf_n32 (FP.fmul (FP.fsub (FP.i2f (((gI B 32 (nI v).toNatClampNeg) >>> (8 &&& 31)) &&& 15)) 1089470464) (gF B 34 (nI v).toNatClampNeg))) ∧ ((vf_n32 (FP.fadd f (FP.fmul (FP.fsub (FP.i2f (((gI B 32 (nI v).toNatClampNeg) >>> (8 &&& 31)) &&& 15)) 1089470464) (gF B 34 (nI v).toNatClampNeg)))) ∧ (vc_X7_sound_n2 (vc_X7_sound_B4 n) B (nI v) (FP.fadd f (FP.fmul (FP.fsub (FP.i2f (((gI B 32 (nI v).toNatClampNeg) >>> (8 &&& 31)) &&& 15)) 1089470464) (gF B 34 (nI v).toNatClampNeg)))))))))
      rw [if_neg j1, ev, es]
      unfold vc_X7_sound_n2 vc_X7_sound_n1
      rw [j2]
      refine ⟨j3, ?_, j3, vs.2, h1, h2⟩
      rw [hR.1 32 v d1]
      exact vs.1
  have f0 := fb_sum0 (P_smp hV (v := 0) (by decide)).1
  have f1 := fb_sum1 f0 (P_smp hV (v := 1) (by decide)).1
  have f2 := fb_sum2 f1 (P_smp hV (v := 2) (by decide)).1
  have eX : sp_X6_sound A = FP.fadd (FP.fadd (FP.fadd FP.fconst0 (sp_X5_sample A (12 + 0))) (sp_X5_sample A (12 + 1))) (sp_X5_sample A (12 + 2)) := by
    show sp_X6_sound_B4 4 A FP.fconst0 (nI 0) = _
    rw [(sX 3 0 _ (by decide)).1, (sX 2 1 _ (by decide)).1, (sX 1 2 _ (by decide)).1]
    exact if_pos (by decide)
  have eM : sp_X7_sound B = FP.fadd (FP.fadd (FP.fadd FP.fconst0 (sp_X5_sample A (12 + 0))) (sp_X5_sample A (12 + 1))) (sp_X5_sample A (12 + 2)) := by
    show sp_X7_sound_B4 4 B FP.fconst0 (nI 0) = _
    rw [(sM 3 0 _ (by decide)).1, (sM 2 1 _ (by decide)).1, (sM 1 2 _ (by decide)).1]
    exact if_pos (by decide)
  refine ⟨eX.trans eM.symm, ?_, ?_, by rw [eX]; exact f2.1⟩
  · refine (sX 3 0 _ (by decide)).2 (nn_vf f0.1) ((sX 2 1 _ (by decide)).2 (nn_vf f1.1) ((sX 1 2 _ (by decide)).2 (nn_vf f2.1) ?_))
    show if (3 : Int32) ≤ nI 3 then True else _
    rw [if_pos (by decide)]; trivial
  · refine (sM 3 0 _ (by decide)).2 (nn_vf f0.1) ((sM 2 1 _ (by decide)).2 (nn_vf f1.1) ((sM 1 2 _ (by decide)).2 (nn_vf f2.1) ?_))
    show if (3 : Int32) ≤ nI 3 then True else _
    rw [if_pos (by decide)]; trivial
