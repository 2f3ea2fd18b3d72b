/-! The picture. -/
theorem fm52 : ∀ m, m < 209 → sp_J9_floorMod_7cf53 (nI m - 104) 52 = nI (m % 52) ∧ ((nI m - 104) + 104) - ((nI m - 104) + 104) / 52 * 52 = nI (m % 52) := by decide +kernel
theorem fm36 : ∀ m, m < 145 → sp_J9_floorMod_7cf53 (nI m - 72) 36 = nI (m % 36) ∧ ((nI m - 72) + 72) - ((nI m - 72) + 72) / 36 * 36 = nI (m % 36) := by decide +kernel
theorem off52 {z : Int32} (h : -104 ≤ z.toInt ∧ z.toInt ≤ 104) : ∃ m, m < 209 ∧ z = nI m - 104 := by
  refine ⟨(z.toInt + 104).toNat, by omega, ?_⟩
  apply Int32.toInt_inj.mp
  have e : (nI (z.toInt + 104).toNat).toInt = z.toInt + 104 := by rw [nI_toInt (by omega)]; omega
  rw [sm_sub (by rw [e]; omega) (by decide), e, show (104 : Int32).toInt = 104 from rfl]
  omega
theorem off36 {z : Int32} (h : -72 ≤ z.toInt ∧ z.toInt ≤ 72) : ∃ m, m < 145 ∧ z = nI m - 72 := by
  refine ⟨(z.toInt + 72).toNat, by omega, ?_⟩
  apply Int32.toInt_inj.mp
  have e : (nI (z.toInt + 72).toNat).toInt = z.toInt + 72 := by rw [nI_toInt (by omega)]; omega
  rw [sm_sub (by rw [e]; omega) (by decide), e, show (72 : Int32).toInt = 72 from rfl]
  omega
theorem po_c : ∀ c, c < 13 → ∀ k, k < 5 → ∀ d, d < 4 → (nI c * 4 + nI k * sp_X6_columnStep (nI d) = 4 * nI c + nI k * sp_X7_across (nI d)) ∧ -4 ≤ (4 * nI c + nI k * sp_X7_across (nI d)).toInt ∧ (4 * nI c + nI k * sp_X7_across (nI d)).toInt ≤ 52 := by decide +kernel
theorem po_r : ∀ r, r < 9 → ∀ k, k < 5 → ∀ d, d < 4 → (nI r * 4 + nI k * sp_X6_rowStep (nI d) = 4 * nI r + nI k * sp_X7_down (nI d)) ∧ -4 ≤ (4 * nI r + nI k * sp_X7_down (nI d)).toInt ∧ (4 * nI r + nI k * sp_X7_down (nI d)).toInt ≤ 36 := by decide +kernel
def M0 (d q : Int32) : Mem := (fun c _ => if c = 20 then q else d, fun _ _ => 0)
theorem pl_dec : ∀ d, d < 4 → ∀ u, u < 4 → ∀ v, v < 4 → (sp_X7_sprite_n2 (M0 (nI d) 0) 0 (nI u) (nI v) = if sp_X3_covers_n1 (M0 (nI d) 0) 5 0 0 (nI u) (nI v) = 0 then 0 else 3) ∧ (sp_X7_sprite_n2 (M0 (nI d) 4) 0 (nI u) (nI v) = if sp_X3_covers_n1 (M0 (nI d) 4) 5 0 4 (nI u) (nI v) = 0 then 0 else 3) := by decide +kernel
theorem hu_dec : ∀ a, a < 4 → ∀ u, u < 4 → ∀ v, v < 4 → (sp_X7_sprite_n2 (M0 0 0) (nI (a + 1)) (nI u) (nI v) = if sp_X3_covers_n1 (M0 0 0) 5 (nI (a + 1)) 0 (nI u) (nI v) = 0 then 0 else 3 + nI (a + 1)) ∧ (sp_X7_sprite_n2 (M0 1 0) (nI (a + 1)) (nI u) (nI v) = if sp_X3_covers_n1 (M0 0 0) 5 (nI (a + 1)) 0 (nI u) (nI v) = 0 then 0 else 8) := by decide +kernel
theorem pl_X {M : Mem} {h : Nat} {d q a5 : Int32} (e : gI M h 2 = d) (z : a5 &&& 4 = 0 ↔ q &&& 4 = 0) (x y : Int32) : sp_X3_covers_n1 M h 0 a5 x y = sp_X3_covers_n1 (M0 d q) 5 0 q x y := by
  simp only [sp_X3_covers_n1, sp_X3_covers_B128, sp_X3_covers_B127, sp_X3_covers_B142, e, z, show gI (M0 d q) 5 2 = d from rfl]
theorem pl_M {M : Mem} {d q : Int32} (e : gI M 25 0 = d) (z : gI M 20 13 &&& 4 = 0 ↔ q &&& 4 = 0) (x y : Int32) : sp_X7_sprite_n2 M 0 x y = sp_X7_sprite_n2 (M0 d q) 0 x y := by
  have p : ((0 : Int32) ≤ 0) := by decide
  simp only [sp_X7_sprite_B274, sp_X7_sprite_B273, sp_X7_sprite_B269, sp_X7_sprite_B248, sp_X7_sprite_B247, sp_X7_sprite_B240, sp_X7_sprite_B212, sp_X7_sprite_B205, sp_X7_sprite_n1, sp_X7_sprite_B171, sp_X7_sprite_B170, sp_X7_sprite_B166, sp_X7_sprite_B149, sp_X7_sprite_B132, sp_X7_sprite_B112, sp_X7_sprite_B107, sp_X7_sprite_B94, sp_X7_sprite_n2, sp_X7_sprite_n3, sp_X7_sprite_n4, sp_X7_sprite_n5, sp_X7_sprite_n6, sp_X7_sprite, e, z, show gI (M0 d q) 25 0 = d from rfl, show gI (M0 d q) 20 13 = q from rfl, if_pos p]
theorem hu_X {M : Mem} {h : Nat} {a a5 : Int32} (ha : ¬ a ≤ 0) (x y : Int32) : sp_X3_covers_n1 M h a a5 x y = sp_X3_covers_n1 (M0 0 0) 5 a 0 x y := by
  simp only [sp_X3_covers_n1, if_neg ha]
theorem hu_M {M : Mem} {a f : Int32} (ha : ¬ a ≤ 0) (e : gI M 27 a.toNatClampNeg = f) (x y : Int32) : sp_X7_sprite_n2 M a x y = sp_X7_sprite_n2 (M0 f 0) a x y := by
  simp only [sp_X7_sprite_n2, sp_X7_sprite_B107, sp_X7_sprite_B112, sp_X7_sprite_B132, e, show gI (M0 f 0) 27 a.toNatClampNeg = f from rfl, if_neg ha]
theorem v_mid (M : Mem) (x : Int32) : vc_X3_isMiddle M x := by
  simp only [vc_X3_isMiddle_B15, vc_X3_isMiddle_B10, vc_X3_isMiddle]
  repeat' split
  all_goals simp
theorem v_mouth (M : Mem) (d x y : Int32) : vc_X3_isMouth M d x y := by
  simp only [vc_X3_isMouth_B97, vc_X3_isMouth_B96, vc_X3_isMouth_B79, vc_X3_isMouth_B78, vc_X3_isMouth_B61, vc_X3_isMouth_B60, vc_X3_isMouth_B44, vc_X3_isMouth_B43, vc_X3_isMouth]
  repeat' split
  all_goals simp [v_mid]
theorem v_cov1 (M : Mem) (h : Nat) (a b x y : Int32) : vc_X3_covers_n1 M h a b x y := by
  simp only [vc_X3_covers_n1, vc_X3_covers_B128, vc_X3_covers_B127, vc_X3_covers_B142, vc_X3_covers_B173, vc_X3_covers_B172, vc_X3_covers_B168, vc_X3_covers_B106, vc_X3_covers_B101]
  repeat' split
  all_goals simp [v_mid, v_mouth]
theorem v_spr2 {M : Mem} {a x y : Int32} (h : vp_in a 5) : vc_X7_sprite_n2 M a x y := by
  simp only [vc_X7_sprite_n2, vc_X7_sprite_B107, vc_X7_sprite_B112, vc_X7_sprite_B132]
  repeat' split
  all_goals first | trivial | exact h
theorem big_4 {u : Nat} (hu : u < 52) (h : ¬ u < 4) : 4 ≤ nI u ∧ 3 < nI u ∧ ¬ nI u < 4 ∧ ¬ nI u ≤ 3 := by
  have a1 : (4 : Int32) ≤ nI u := nI_le (a := 4) (b := u) (by omega) (by omega)
  have a2 : (3 : Int32) < nI u := nI_lt (a := 3) (b := u) (by omega) (by omega)
  exact ⟨a1, a2, Int32.not_lt.mpr a1, Int32.not_le.mpr a2⟩
theorem sm_4 : ∀ u, u < 4 → ¬ 4 ≤ nI u ∧ ¬ 3 < nI u ∧ nI u < 4 ∧ nI u ≤ 3 := by decide +kernel
theorem P_cov {A B : Mem} {F a i j : Nat} (hR : Rl A B) (hI : Inv F A) (ha : a < 5) (hi : i < 52) (hj : j < 36) :
    sp_X7_sprite B (nI a) (nI i) (nI j) = (if sp_X3_covers A (5 + a) (nI a) (nI i) (nI j) (gI A 0 5) = 0 then 0 else sp_X3_spriteColour A (5 + a) (nI a)) ∧ vc_X7_sprite B (nI a) (nI i) (nI j) ∧ vc_X3_covers A (5 + a) (nI a) (nI i) (nI j) (gI A 0 5) ∧ ¬ sp_X3_spriteColour A (5 + a) (nI a) ≤ 0 := by
  have ea : (nI a).toNatClampNeg = a := nI_cl (by omega)
  have rv := (ra_pos a ha).2
  obtain ⟨d0, d1, d2, d4, d6, d5, -, -, d3⟩ := dA ha
  have hat : ∃ c r d, atC A (5 + a) c r d ∧ pg (gF A (5 + a) 3) ∧ bo (gI A (5 + a) 4) ∧ (a = 0 → gI A (5 + a) 4 = 0) := by
    by_cases a0 : a = 0
    · subst a0
      obtain ⟨⟨c, r, d, h⟩, hp, h4, -⟩ := hI.1.2.2.1
      exact ⟨c, r, d, h, hp, Or.inl h4, fun _ => h4⟩
    · obtain ⟨⟨c, r, d, h, -⟩, hp, h4, -⟩ := hI.1.2.2.2.1 (5 + a) (by omega) (by omega)
      exact ⟨c, r, d, h, hp, h4, fun z => absurd z a0⟩
  obtain ⟨c, r, d, ⟨hc, hr, hd, v0, v1, v2, -⟩, hp, h4, h40⟩ := hat
  have b0 : gI B 23 a = nI c := (hR.1 23 a d0).trans v0
  have b1 : gI B 24 a = nI r := (hR.1 24 a d1).trans v1
  have b2 : gI B 25 a = nI d := (hR.1 25 a d2).trans v2
  have b4 : gI B 27 a = gI A (5 + a) 4 := hR.1 27 a d4
  have bp : gF B 26 a = gF A (5 + a) 3 := hR.2.1 26 a d3
  have b13 : gI B 20 13 = gI A 0 5 := hR.1 20 13 rfl
  obtain ⟨f1, k, hk, fk⟩ := pg_four hp
  obtain ⟨c1, c2, c3⟩ := po_c c hc k (by omega) d hd
  obtain ⟨r1, r2, r3⟩ := po_r r hr k (by omega) d hd
  have zi : -104 ≤ (nI i - (4 * nI c + nI k * sp_X7_across (nI d))).toInt ∧ (nI i - (4 * nI c + nI k * sp_X7_across (nI d))).toInt ≤ 104 := by
    rw [sm_sub (by rw [nI_toInt (by omega)]; omega) (by omega), nI_toInt (by omega)]
    omega
  have zj : -72 ≤ (nI j - (4 * nI r + nI k * sp_X7_down (nI d))).toInt ∧ (nI j - (4 * nI r + nI k * sp_X7_down (nI d))).toInt ≤ 72 := by
    rw [sm_sub (by rw [nI_toInt (by omega)]; omega) (by omega), nI_toInt (by omega)]
    omega
  obtain ⟨m, hm, em⟩ := off52 zi
  obtain ⟨n, hn, en⟩ := off36 zj
  obtain ⟨m1, m2⟩ := fm52 m hm
  obtain ⟨n1, n2⟩ := fm36 n hn
  have hu : m % 52 < 52 := Nat.mod_lt _ (by decide)
  have hv : n % 36 < 36 := Nat.mod_lt _ (by decide)
  -- both come to the sprite's own point
  have eX : sp_X3_covers A (5 + a) (nI a) (nI i) (nI j) (gI A 0 5) = sp_X3_covers_n1 A (5 + a) (nI a) (gI A 0 5) (nI (m % 52)) (nI (n % 36)) := by
    unfold sp_X3_covers sp_X3_covers_n5 sp_X3_covers_n4 sp_X3_covers_n3 sp_X3_covers_n2
    rw [fk, v0, v1, v2, c1, r1, em, en, m1, n1]
  have eM : sp_X7_sprite B (nI a) (nI i) (nI j) = sp_X7_sprite_n2 B (nI a) (nI (m % 52)) (nI (n % 36)) := by
    unfold sp_X7_sprite sp_X7_sprite_n6 sp_X7_sprite_n5 sp_X7_sprite_n4 sp_X7_sprite_n3
    rw [ea, bp, fk, b0, b1, b2, em, en, m2, n2]
  have vX : vc_X3_covers A (5 + a) (nI a) (nI i) (nI j) (gI A 0 5) := by
    refine ⟨nn_vf f1, ?_, ?_, v_cov1 _ _ _ _ _ _⟩
    · show ¬ (52 : Int32) = 0
      decide
    · show ¬ (36 : Int32) = 0
      decide
  have vM : vc_X7_sprite B (nI a) (nI i) (nI j) := by
    refine ⟨rv, ?_, rv, rv, rv, rv, v_spr2 rv⟩
    rw [ea, bp]; exact nn_vf f1
  have eC : sp_X3_spriteColour A (5 + a) (nI a) = if gI A (5 + a) 4 = 0 then 3 + nI a else 8 := rfl
  have pos : ¬ sp_X3_spriteColour A (5 + a) (nI a) ≤ 0 := by
    rw [eC]
    rcases lt5 ha with rfl | rfl | rfl | rfl | rfl <;> split <;> decide
  refine ⟨?_, vM, vX, pos⟩
  rw [eX, eM]
  generalize m % 52 = u at *
  generalize n % 36 = v at *
  -- outside of the sprite's four by four points
  by_cases u4 : u < 4
  · by_cases v4 : v < 4
    · by_cases a0 : a = 0
      · subst a0
        rw [eC, if_pos (h40 rfl)]
        by_cases q : gI A 0 5 &&& 4 = 0
        · rw [show nI 0 = 0 from rfl, pl_X (q := 0) v2 ⟨fun _ => rfl, fun _ => q⟩, pl_M (q := 0) b2 ⟨fun _ => rfl, fun _ => by rw [b13]; exact q⟩]
          exact (pl_dec d hd u u4 v v4).1
        · rw [show nI 0 = 0 from rfl, pl_X (q := 4) v2 ⟨fun z => absurd z q, fun z => absurd z (by decide)⟩, pl_M (q := 4) b2 ⟨fun z => absurd (by rw [← b13]; exact z) q, fun z => absurd z (by decide)⟩]
          exact (pl_dec d hd u u4 v v4).2
      · have na : ¬ nI a ≤ 0 := fun z => a0 ((ra_pos a ha).1.mp z)
        obtain ⟨b, rfl⟩ : ∃ b, a = b + 1 := ⟨a - 1, by omega⟩
        rw [hu_X na, eC]
        rcases h4 with h4 | h4
        · rw [if_pos h4, hu_M (f := 0) na (by rw [ea, b4]; exact h4)]
          exact (hu_dec b (by omega) u u4 v v4).1
        · rw [if_neg (show ¬ gI A (5 + (b + 1)) 4 = 0 by rw [h4]; decide), hu_M (f := 1) na (by rw [ea, b4]; exact h4)]
          exact (hu_dec b (by omega) u u4 v v4).2
    · obtain ⟨q1, q2, q3, q4⟩ := big_4 (u := v) (by omega) v4
      obtain ⟨p1, p2, p3, p4⟩ := sm_4 u u4
      unfold sp_X3_covers_n1 sp_X7_sprite_n2
      rw [if_neg p1, if_neg q3, if_neg p2, if_neg q4]
      rfl
  · obtain ⟨p1, p2, p3, p4⟩ := big_4 (u := u) (by omega) u4
    unfold sp_X3_covers_n1 sp_X7_sprite_n2
    rw [if_pos p1, if_pos p2]
    rfl
theorem q4_n : ∀ i, i < 52 → nI i / 4 = nI (i / 4) ∧ nI i - nI i / 4 * 4 = nI (i % 4) := by decide +kernel
theorem mid_n : ∀ u, u < 4 → ((sp_X3_isMiddle (nI u) = 0 ↔ (nI u ≤ 0 ∨ 3 ≤ nI u))) := by decide +kernel
theorem P_tile {A B : Mem} {i j : Nat} (hR : Rl A B) (hi : i < 52) (hj : j < 36) : sp_X7_point_B60 B (nI i) (nI j) = sp_X6_point_B81 A (nI i) (nI j) ∧ vc_X7_point_B60 B (nI i) (nI j) ∧ vc_X6_point_B81 A (nI i) (nI j) := by
  obtain ⟨i1, i2⟩ := q4_n i hi
  obtain ⟨j1, j2⟩ := q4_n j (by omega)
  have hc : i / 4 < 13 := by omega
  have hr : j / 4 < 9 := by omega
  obtain ⟨w1, w2⟩ := e_whatIs (A := A) hc hr
  obtain ⟨g1, g2, g3, g4⟩ := g_ix (i / 4) hc (j / 4) hr
  have b13 : gI B 20 13 = gI A 0 5 := hR.1 20 13 rfl
  have bc : gI B 22 (13 * (j / 4) + i / 4) = gI A 3 (13 * (j / 4) + i / 4) := hR.1 22 _ (by show decide (13 * (j / 4) + i / 4 < 117) = true; exact decide_eq_true (by omega))
  have hu : i % 4 < 4 := Nat.mod_lt _ (by decide)
  have hv : j % 4 < 4 := Nat.mod_lt _ (by decide)
  refine ⟨?_, ?_, ?_⟩
  · unfold sp_X7_point_B60 sp_X7_point_n3 sp_X7_point_n2 sp_X6_point_B81 sp_X3_tileColour sp_X3_tileColour_n3 sp_X3_tileColour_n2
    rw [i2, j2, i1, j1, w1, g2, bc]
    generalize gI A 3 (13 * (j / 4) + i / 4) = t
    have m1 := mid_n (i % 4) hu
    have m2 := mid_n (j % 4) hv
    generalize nI (i % 4) = x at *
    generalize nI (j % 4) = y at *
    simp only [sp_X7_point_n1, sp_X3_tileColour_n1, sp_X7_point_B175, sp_X7_point_B174, sp_X7_point_B158, sp_X7_point_B157, sp_X7_point_B115, sp_X7_point_B114, sp_X3_tileColour_B112, sp_X3_tileColour_B100, sp_X3_tileColour_B99, sp_X3_tileColour_B71, sp_X3_tileColour_B70, b13, m1, m2]
    by_cases t1 : t = 1
    · rw [if_pos t1, if_pos t1]
    · rw [if_neg t1, if_neg t1]
      by_cases t2 : t = 2
      · rw [if_pos t2, if_pos t2]
      · rw [if_neg t2, if_neg t2]
        by_cases t3 : t = 3
        · rw [if_pos t3, if_pos t3]
          by_cases x1 : x ≤ 0
          · rw [if_pos x1, if_pos (Or.inl x1)]
          · by_cases x2 : 3 ≤ x
            · rw [if_neg x1, if_pos x2, if_pos (Or.inr x2)]
            · have x3 : ¬ (x ≤ 0 ∨ 3 ≤ x) := fun h => h.elim x1 x2
              simp only [if_neg x1, if_neg x2, if_neg x3]
              by_cases y1 : y ≤ 0
              · rw [if_pos y1, if_pos (Or.inl y1)]
              · by_cases y2 : 3 ≤ y
                · rw [if_neg y1, if_pos y2, if_pos (Or.inr y2)]
                · have y3 : ¬ (y ≤ 0 ∨ 3 ≤ y) := fun h => h.elim y1 y2
                  simp only [if_neg y1, if_neg y2, if_neg y3]
        · rw [if_neg t3, if_neg t3]
  · show vp_in (13 * (nI j / 4) + nI i / 4) 117
    rw [i1, j1]
    exact g4
  · show vc_X2_whatIs A (nI i / 4) (nI j / 4) ∧ vc_X3_tileColour_n1 A (gI A 0 5) _ _ _
    rw [i1, j1]
    refine ⟨w2, ?_⟩
    unfold vc_X3_tileColour_n1
    repeat' split
    all_goals simp [v_mid]
theorem P_pointL {A B : Mem} {F i j : Nat} (hR : Rl A B) (hI : Inv F A) (hi : i < 52) (hj : j < 36) (hon : ¬ gI A 1 3 = 0) : ∀ n a, a ≤ 5 → 5 < a + n → sp_X6_point_B34 n A (nI i) (nI j) (nI a) = sp_X7_point_B24 n B (nI i) (nI j) (nI a) ∧ vc_X6_point_B34 n A (nI i) (nI j) (nI a) ∧ vc_X7_point_B24 n B (nI i) (nI j) (nI a) := by
  have hon' : ¬ gI B 20 3 = 0 := by rw [hR.1 20 3 rfl]; exact hon
  obtain ⟨t1, t2, t3⟩ := P_tile hR hi hj
  intro n
  induction n with
  | zero => intro a h1 h2; omega
  | succ n ih =>
    intro a h1 h2
    by_cases a5 : a = 5
    · subst a5
      refine ⟨?_, ?_, ?_⟩
      · rw [show sp_X6_point_B34 (n + 1) A (nI i) (nI j) (nI 5) = sp_X6_point_B81 A (nI i) (nI j) from if_pos (by decide), show sp_X7_point_B24 (n + 1) B (nI i) (nI j) (nI 5) = sp_X7_point_B60 B (nI i) (nI j) from if_pos (by decide), t1]
      · show if (5 : Int32) ≤ nI 5 then vc_X6_point_B81 A (nI i) (nI j) else _
        rw [if_pos (by decide)]; exact t3
      · show if (5 : Int32) ≤ nI 5 then vc_X7_point_B60 B (nI i) (nI j) else _
        rw [if_pos (by decide)]; exact t2
    · have ha : a < 5 := by omega
      obtain ⟨i1, i2⟩ := i5 a ha
      have ea : (nI a).toNatClampNeg = a := nI_cl (by omega)
      have rv := (ra_pos a ha).2
      obtain ⟨c1, c2, c3, c4⟩ := P_cov hR hI ha hi hj
      have P := ih (a + 1) (by omega) (by omega)
      rw [show sp_X6_point_B34 (n + 1) A (nI i) (nI j) (nI a) = if 5 ≤ nI a then (sp_X6_point_B81 A (nI i) (nI j)) else (if (sp_X3_covers A (5 + (nI a).toNatClampNeg) (nI a) (nI i) (nI j) (gI A 0 5)) = 0 then (sp_X6_point_n1 (sp_X6_point_B34 n) A (nI i) (nI j) (nI a + 1)) else (sp_X3_spriteColour A (5 + (nI a).toNatClampNeg) (nI a))) from rfl, if_neg i1, ea, i2]
      rw [show sp_X7_point_B24 (n + 1) B (nI i) (nI j) (nI a) = if 5 ≤ nI a then (sp_X7_point_B60 B (nI i) (nI j)) else (if (gI B 20 3) = 0 then (sp_X7_point_B60 B (nI i) (nI j)) else (if (sp_X7_sprite B (nI a) (nI i) (nI j)) ≤ 0 then (sp_X7_point_n4 (sp_X7_point_B24 n) B (nI i) (nI j) (nI a + 1)) else (sp_X7_sprite B (nI a) (nI i) (nI j)))) from rfl, if_neg i1, if_neg hon', i2]
      rw [show vc_X6_point_B34 (n + 1) A (nI i) (nI j) (nI a) = if 5 ≤ nI a then vc_X6_point_B81 A (nI i) (nI j) else (vp_in (nI a) 5 ∧ ((vc_X3_covers A (5 + (nI a).toNatClampNeg) (nI a) (nI i) (nI j) (gI A 0 5)) ∧ (if (sp_X3_covers A (5 + (nI a).toNatClampNeg) (nI a) (nI i) (nI j) (gI A 0 5)) = 0 then (vc_X6_point_n1 (vc_X6_point_B34 n) A (nI i) (nI j) (nI a + 1)) else vp_in (nI a) 5))) from rfl, if_neg i1, ea, i2]
      rw [show vc_X7_point_B24 (n + 1) B (nI i) (nI j) (nI a) = if 5 ≤ nI a then vc_X7_point_B60 B (nI i) (nI j) else (if (gI B 20 3) = 0 then vc_X7_point_B60 B (nI i) (nI j) else (vc_X7_sprite B (nI a) (nI i) (nI j) ∧ (if (sp_X7_sprite B (nI a) (nI i) (nI j)) ≤ 0 then (vc_X7_point_n4 (vc_X7_point_B24 n) B (nI i) (nI j) (nI a + 1)) else vc_X7_sprite B (nI a) (nI i) (nI j)))) from rfl, if_neg i1, if_neg hon', i2]
      by_cases z : sp_X3_covers A (5 + a) (nI a) (nI i) (nI j) (gI A 0 5) = 0
      · rw [if_pos z] at c1
        have s0 : sp_X7_sprite B (nI a) (nI i) (nI j) ≤ 0 := by rw [c1]; decide
        simp only [if_pos z, if_pos s0]
        exact ⟨P.1, ⟨rv, c3, P.2.1⟩, ⟨c2, P.2.2⟩⟩
      · rw [if_neg z] at c1
        have s0 : ¬ sp_X7_sprite B (nI a) (nI i) (nI j) ≤ 0 := by rw [c1]; exact c4
        simp only [if_neg z, if_neg s0]
        exact ⟨c1.symm, ⟨rv, c3, rv⟩, ⟨c2, c2⟩⟩
theorem P_point {A B : Mem} {F : Nat} (hR : Rl A B) (hI : Inv F A) (x y : Int32) : sp_X6_point A x y = sp_X7_point B x y ∧ vc_X6_point A x y ∧ vc_X7_point B x y := by
  unfold sp_X6_point vc_X6_point sp_X7_point vc_X7_point
  by_cases z : x < 0
  · simp only [if_pos z]
    exact ⟨rfl, trivial, trivial⟩
  · simp only [if_neg z]
    by_cases w : x < 52
    · have w1 : ¬ 52 ≤ x := Int32.not_le.mpr w
      have w2 : ¬ 51 < x := Int32.not_lt.mpr ((le_51 x).mpr w)
      simp only [if_neg w1, if_neg w2]
      by_cases u : y < 0
      · simp only [if_pos u]
        exact ⟨rfl, trivial, trivial⟩
      · simp only [if_neg u, le_35]
        by_cases v : y < 36
        · simp only [if_pos v]
          obtain ⟨i, hi, rfl⟩ := asn (x := x) 52 (by decide) z w
          obtain ⟨j, hj, rfl⟩ := asn (x := y) 36 (by decide) u v
          by_cases on : gI A 1 3 = 0
          · simp only [if_pos on]
            have on' : gI B 20 3 = 0 := (hR.1 20 3 rfl).trans on
            obtain ⟨t1, t2, t3⟩ := P_tile hR hi hj
            refine ⟨?_, t3, ?_⟩
            · rw [show sp_X7_point_B24 6 B (nI i) (nI j) 0 = if (5 : Int32) ≤ 0 then _ else (if (gI B 20 3) = 0 then (sp_X7_point_B60 B (nI i) (nI j)) else _) from rfl, if_neg (by decide), if_pos on', t1]
            · show if (5 : Int32) ≤ 0 then _ else (if (gI B 20 3) = 0 then (vc_X7_point_B60 B (nI i) (nI j)) else _)
              rw [if_neg (by decide), if_pos on']
              exact t2
          · simp only [if_neg on]
            exact P_pointL hR hI hi hj on 6 0 (by decide) (by decide)
        · simp only [if_neg v]
          exact ⟨rfl, trivial, trivial⟩
    · have w1 : 52 ≤ x := Int32.not_lt.mp w
      have w2 : 51 < x := Int32.not_le.mp (fun h => w ((le_51 x).mp h))
      simp only [if_pos w1, if_pos w2]
      exact ⟨rfl, trivial, trivial⟩
