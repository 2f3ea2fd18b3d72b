theorem le_lt_380 (x : Int32) : x ≤ 379 ↔ x < 380 := by
  rw [Int32.le_iff_toInt_le, Int32.lt_iff_toInt_lt, show (379 : Int32).toInt = 379 from rfl, show (380 : Int32).toInt = 380 from rfl]
  omega
theorem lt_le_660 (x : Int32) : 659 < x ↔ 660 ≤ x := by
  rw [Int32.le_iff_toInt_le, Int32.lt_iff_toInt_lt, show (659 : Int32).toInt = 659 from rfl, show (660 : Int32).toInt = 660 from rfl]
  omega
theorem P_scat {A B : Mem} (hR : Rl A B) : sp_X7_scatters B = sp_X1_isScatter A ∧ bo (sp_X1_isScatter A) ∧ vc_X1_isScatter A ∧ vc_X7_scatters B := by
  have s10 : gI B 20 10 = gI A 1 11 := hR.1 20 10 rfl
  simp only [sp_X1_isScatter_B54, sp_X1_isScatter_B53, sp_X1_isScatter_B49, sp_X1_isScatter_B29, sp_X1_isScatter, vc_X1_isScatter_B54, vc_X1_isScatter_B53, vc_X1_isScatter_B49, vc_X1_isScatter_B29, vc_X1_isScatter, sp_X7_scatters_B54, sp_X7_scatters_B53, sp_X7_scatters_B49, sp_X7_scatters_B29, sp_X7_scatters, vc_X7_scatters_B54, vc_X7_scatters_B53, vc_X7_scatters_B49, vc_X7_scatters_B29, vc_X7_scatters, s10, le_lt_380, lt_le_660, bo]
  refine ⟨trivial, ?_, ?_, ?_⟩
  all_goals repeat' split
  all_goals simp
theorem sm_sub {a b : Int32} (h1 : -1000 ≤ a.toInt ∧ a.toInt ≤ 1000) (h2 : -1000 ≤ b.toInt ∧ b.toInt ≤ 1000) : (a - b).toInt = a.toInt - b.toInt := by
  rw [Int32.toInt_sub, Int.bmod_eq_of_le (by omega) (by omega)]
theorem sm_add {a b : Int32} (h1 : -1000000 ≤ a.toInt ∧ a.toInt ≤ 1000000) (h2 : -1000000 ≤ b.toInt ∧ b.toInt ≤ 1000000) : (a + b).toInt = a.toInt + b.toInt := by
  rw [Int32.toInt_add, Int.bmod_eq_of_le (by omega) (by omega)]
theorem sm_sq {a : Int32} (h1 : -100 ≤ a.toInt ∧ a.toInt ≤ 100) : 0 ≤ (a * a).toInt ∧ (a * a).toInt ≤ 10000 := by
  have h2 : a.toInt * a.toInt ≤ 10000 := by
    have e1 := Int.mul_nonneg (a := 100 - a.toInt) (b := 100 + a.toInt) (by omega) (by omega)
    have e2 : (100 - a.toInt) * (100 + a.toInt) = 10000 - a.toInt * a.toInt := by
      rw [Int.sub_mul, Int.mul_add, Int.mul_add]
      have : 100 * a.toInt = a.toInt * 100 := Int.mul_comm _ _
      omega
    omega
  have h3 : 0 ≤ a.toInt * a.toInt := by
    rcases Int.le_total 0 a.toInt with h | h
    · exact Int.mul_nonneg h h
    · exact Int.mul_nonneg_of_nonpos_of_nonpos h h
  rw [Int32.toInt_mul, Int.bmod_eq_of_le (by omega) (by omega)]
  exact ⟨h3, h2⟩
def rg (x : Int32) : Prop := -20 ≤ x.toInt ∧ x.toInt ≤ 40
theorem dist_lt {a b x y : Int32} (ha : rg a) (hb : rg b) (hx : rg x) (hy : rg y) : sp_X6_distance a b x y < 2147483647 := by
  unfold rg at *
  have e1 := sm_sub (a := a) (b := x) (by omega) (by omega)
  have e2 := sm_sub (a := b) (b := y) (by omega) (by omega)
  have q1 := sm_sq (a := a - x) (by omega)
  have q2 := sm_sq (a := b - y) (by omega)
  simp only [sp_X6_distance_n1, sp_X6_distance_n2, sp_X6_distance]
  rw [Int32.lt_iff_toInt_lt, sm_add (by omega) (by omega), show (2147483647 : Int32).toInt = 2147483647 from rfl]
  omega
theorem dist_eq (a b x y : Int32) : sp_X7_distance a b x y = sp_X6_distance a b x y := rfl
theorem rg_nI {k : Nat} (h : k ≤ 40) : rg (nI k) := by
  unfold rg
  rw [nI_toInt (by omega)]
  omega
theorem rg_2 : ∀ p, p < 13 → ∀ d, d < 4 → (-20 ≤ (nI p + 2 * sp_X7_across (nI d)).toInt ∧ (nI p + 2 * sp_X7_across (nI d)).toInt ≤ 40) ∧ (-20 ≤ (nI p + 2 * sp_X7_down (nI d)).toInt ∧ (nI p + 2 * sp_X7_down (nI d)).toInt ≤ 40) := by decide +kernel
theorem rg_3 : ∀ p, p < 13 → ∀ d, d < 4 → ∀ c, c < 13 → (-20 ≤ (2 * (nI p + sp_X7_across (nI d)) - nI c).toInt ∧ (2 * (nI p + sp_X7_across (nI d)) - nI c).toInt ≤ 40) ∧ (-20 ≤ (2 * (nI p + sp_X7_down (nI d)) - nI c).toInt ∧ (2 * (nI p + sp_X7_down (nI d)) - nI c).toInt ≤ 40) := by decide +kernel
theorem e_aimAt (M : Mem) (h : Nat) (x y : Int32) : sp_X0_aimAt M h x y = wI (wI M h 9 x) h 10 y := rfl
/-- where the hunter number a aims, when it is no time to scatter: at the player, by rules of its own -/
theorem P_aimP {A B : Mem} (hR : Rl A B) {a p r d c1 r1 : Nat} (h1 : 1 ≤ a) (ha : a < 5) (hp : p < 13) (hr : r < 9) (hd : d < 4) (hc1 : c1 < 13) (hr1 : r1 < 9) (v0 : gI A 5 0 = nI p) (v1 : gI A 5 1 = nI r) (v2 : gI A 5 2 = nI d) (u0 : gI A 6 0 = nI c1) (u1 : gI A 6 1 = nI r1) :
    ∃ x y, sp_X1_aimAtPlayer A (5 + a) (nI a) = wI (wI A (5 + a) 9 x) (5 + a) 10 y ∧ sp_X7_aim_B82 B (nI a) 1 = x ∧ sp_X7_aim_B82 B (nI a) 0 = y ∧ rg x ∧ rg y := by
  have b0 : gI B 23 0 = nI p := (hR.1 23 0 rfl).trans v0
  have b1 : gI B 24 0 = nI r := (hR.1 24 0 rfl).trans v1
  have b2 : gI B 25 0 = nI d := (hR.1 25 0 rfl).trans v2
  have m0 : gI B 23 1 = nI c1 := (hR.1 23 1 rfl).trans u0
  have m1 : gI B 24 1 = nI r1 := (hR.1 24 1 rfl).trans u1
  have k2 := rg_2 p hp d hd
  have k2' := rg_2 r (by omega) d hd
  have k3 := rg_3 p hp d hd c1 hc1
  have k3' := rg_3 r (by omega) d hd r1 (by omega)
  simp only [sp_X1_aimAtPlayer_B131, sp_X1_aimAtPlayer_n1, sp_X1_aimAtPlayer_n2, sp_X1_aimAtPlayer_n3, sp_X1_aimAtPlayer_n4, sp_X1_aimAtPlayer_n5, sp_X1_aimAtPlayer, sp_X7_aim_B82, sp_X7_aim_B101, sp_X7_aim_B128, sp_X7_aim_B174, sp_X7_aim_B180, b0, b1, b2, m0, m1, v0, v1, v2, u0, u1, (g_st d hd).1, (g_st d hd).2, e_aimAt, if_pos (rfl : (0 : Int32) = 0), if_neg (show ¬ (1 : Int32) = 0 by decide)]
  rcases (show a = 1 ∨ a = 2 ∨ a = 3 ∨ a = 4 by omega) with rfl | rfl | rfl | rfl
  · simp only [if_neg (show ¬ nI 1 = 2 by decide), if_neg (show ¬ nI 1 = 3 by decide)]
    exact ⟨_, _, rfl, rfl, rfl, rg_nI (by omega), rg_nI (by omega)⟩
  · simp only [if_pos (show nI 2 = 2 from rfl)]
    exact ⟨_, _, rfl, rfl, rfl, k2.1, k2'.2⟩
  · simp only [if_neg (show ¬ nI 3 = 2 by decide), if_pos (show nI 3 = 3 from rfl)]
    exact ⟨_, _, rfl, rfl, rfl, k3.1, k3'.2⟩
  · simp only [if_neg (show ¬ nI 4 = 2 by decide), if_neg (show ¬ nI 4 = 3 by decide)]
    exact ⟨_, _, rfl, rfl, rfl, rg_nI (by omega), rg_nI (by omega)⟩
theorem corn : ∀ a, 1 ≤ a ∧ a < 5 → (∀ (M : Mem) (h : Nat), sp_X1_setAim_B37 M h (nI a) = wI (wI M h 9 (sp_X7_cornerColumn (nI a))) h 10 (sp_X7_cornerRow (nI a))) ∧ rg (sp_X7_cornerColumn (nI a)) ∧ rg (sp_X7_cornerRow (nI a)) := by
  intro a ha
  unfold rg
  rcases (show a = 1 ∨ a = 2 ∨ a = 3 ∨ a = 4 by omega) with rfl | rfl | rfl | rfl <;> exact ⟨fun M h => rfl, by decide, by decide⟩
theorem P_aim {A B : Mem} (hR : Rl A B) {a p r d c1 r1 : Nat} (h1 : 1 ≤ a) (ha : a < 5) (hp : p < 13) (hr : r < 9) (hd : d < 4) (hc1 : c1 < 13) (hr1 : r1 < 9) (v0 : gI A 5 0 = nI p) (v1 : gI A 5 1 = nI r) (v2 : gI A 5 2 = nI d) (u0 : gI A 6 0 = nI c1) (u1 : gI A 6 1 = nI r1) :
    ∃ x y, sp_X1_setAim A (5 + a) (nI a) = wI (wI A (5 + a) 9 x) (5 + a) 10 y ∧ sp_X7_aim B (nI a) 1 = x ∧ sp_X7_aim B (nI a) 0 = y ∧ rg x ∧ rg y ∧ vc_X1_setAim A (5 + a) (nI a) ∧ vc_X7_aim B (nI a) 1 ∧ vc_X7_aim B (nI a) 0 := by
  have ea : (nI a).toNatClampNeg = a := nI_cl (by omega)
  have rv := (ra_pos a ha).2
  obtain ⟨sc1, sc2, sc3, sc4⟩ := P_scat hR
  obtain ⟨d0, d1, d2, d4, d6, d5, -⟩ := dA ha
  have bl : gI B 29 a = gI A (5 + a) 5 := hR.1 29 a d5
  obtain ⟨x, y, e1, e2, e3, e4, e5⟩ := P_aimP hR h1 ha hp hr hd hc1 hr1 v0 v1 v2 u0 u1
  obtain ⟨k1, k2, k3⟩ := corn a ⟨h1, ha⟩
  have near : sp_X7_distance (gI B 23 4) (gI B 24 4) (gI B 23 0) (gI B 24 0) = sp_X6_distance (gI A 9 0) (gI A 9 1) (gI A 5 0) (gI A 5 1) := by
    rw [hR.1 23 4 rfl, hR.1 24 4 rfl, hR.1 23 0 rfl, hR.1 24 0 rfl]; rfl
  have vX : vc_X1_setAim A (5 + a) (nI a) := by
    simp only [vc_X1_setAim, vc_X1_isNearPlayer_B35, vc_X1_isNearPlayer]
    repeat' split
    all_goals simp [sc3]
  have vM : ∀ z, vc_X7_aim B (nI a) z := by
    intro z
    simp only [vc_X7_aim_B35, vc_X7_aim]
    repeat' split
    all_goals simp [sc4, rv]
  suffices h : ∃ x y, sp_X1_setAim A (5 + a) (nI a) = wI (wI A (5 + a) 9 x) (5 + a) 10 y ∧ sp_X7_aim B (nI a) 1 = x ∧ sp_X7_aim B (nI a) 0 = y ∧ rg x ∧ rg y by
    obtain ⟨x, y, q1, q2, q3, q4, q5⟩ := h
    exact ⟨x, y, q1, q2, q3, q4, q5, vX, vM 1, vM 0⟩
  have n10 : ¬ (1 : Int32) = 0 := by decide
  simp only [sp_X1_setAim, sp_X7_aim, ea, bl, if_pos (rfl : (0 : Int32) = 0), if_neg n10]
  by_cases l0 : gI A (5 + a) 5 = 0
  · simp only [if_pos l0, sp_X7_aim_B35, sc1]
    by_cases s0 : sp_X1_isScatter A = 0
    · simp only [if_pos s0]
      by_cases a4 : nI a = 4
      · have a4' : a = 4 := (nI_eq (a := a) (b := 4) (by omega) (by decide)).mp a4
        subst a4'
        by_cases q : 9 ≤ sp_X6_distance (gI A 9 0) (gI A 9 1) (gI A 5 0) (gI A 5 1)
        · have hn : sp_X1_isNearPlayer A 9 = 0 := by
            simp only [sp_X1_isNearPlayer_B35, sp_X1_isNearPlayer, if_pos q]
          simp only [if_pos a4, near, if_pos q, hn, if_true]
          exact ⟨x, y, e1, e2, e3, e4, e5⟩
        · have hn : ¬ sp_X1_isNearPlayer A 9 = 0 := by
            simp only [sp_X1_isNearPlayer_B35, sp_X1_isNearPlayer, if_neg q]
            decide
          simp only [if_pos a4, near, if_neg q, if_neg hn]
          exact ⟨_, _, k1 A _, rfl, rfl, k2, k3⟩
      · simp only [if_neg a4]
        exact ⟨x, y, e1, e2, e3, e4, e5⟩
    · simp only [if_neg s0]
      exact ⟨_, _, k1 A _, rfl, rfl, k2, k3⟩
  · simp only [if_neg l0]
    exact ⟨6, 2, rfl, rfl, rfl, rg_nI (k := 6) (by decide), rg_nI (k := 2) (by decide)⟩
