/-! CELLS AND DIRECTIONS -/
def nc (c d : Nat) : Nat := if d = 1 then (if c = 0 then 12 else c - 1) else if d = 3 then (if c = 12 then 0 else c + 1) else c
def nr (r d : Nat) : Nat := if d = 0 then r - 1 else if d = 2 then r + 1 else r
def bk (d : Nat) : Nat := (d + 2) % 4
def outM (r d : Nat) : Bool := (d == 0 && r == 0) || (d == 2 && r == 8)
theorem g_nc : ∀ c, c < 13 → ∀ d, d < 4 → sp_X6_nextColumn (nI c) (nI d) = nI (nc c d) ∧ sp_X7_around (nI c + sp_X7_across (nI d)) = nI (nc c d) ∧ nc c d < 13 := by decide +kernel
theorem g_nr : ∀ r, r < 9 → ∀ d, d < 4 → sp_X6_nextRow (nI r) (nI d) = nI r + sp_X7_down (nI d) ∧ ((outM r d = true ∧ (nI r + sp_X7_down (nI d) < 0 ∨ (¬ nI r + sp_X7_down (nI d) < 0 ∧ ¬ nI r + sp_X7_down (nI d) < 9 ∧ ¬ nI r + sp_X7_down (nI d) ≤ 8))) ∨ (outM r d = false ∧ nI r + sp_X7_down (nI d) = nI (nr r d) ∧ nr r d < 9)) := by decide +kernel
theorem g_ix : ∀ c, c < 13 → ∀ r, r < 9 → (nI r * 13 + nI c).toNatClampNeg = 13 * r + c ∧ (13 * nI r + nI c).toNatClampNeg = 13 * r + c ∧ ¬ (nI r * 13 + nI c < 0 ∨ 117 ≤ (nI r * 13 + nI c).toNatClampNeg) ∧ ¬ (13 * nI r + nI c < 0 ∨ 117 ≤ (13 * nI r + nI c).toNatClampNeg) := by decide +kernel
theorem g_bk : ∀ d, d < 4 → sp_X6_opposite (nI d) = nI (bk d) ∧ (nI d + 2) &&& 3 = nI (bk d) ∧ bk d < 4 := by decide +kernel
theorem g_st : ∀ d, d < 4 → sp_X6_columnStep (nI d) = sp_X7_across (nI d) ∧ sp_X6_rowStep (nI d) = sp_X7_down (nI d) := by decide +kernel
theorem g_lo : ∀ c, c < 13 → ¬ nI c < 0 ∧ ¬ 13 ≤ nI c := by decide +kernel
theorem g_lr : ∀ c, c < 9 → ¬ nI c < 0 ∧ nI c < 9 ∧ nI c ≤ 8 := by decide +kernel
def opn (A : Mem) (c r d : Nat) (lv : Int32) : Int32 := if outM r d = true then 0 else if gI A 3 (13 * nr r d + nc c d) = 1 then 0 else if gI A 3 (13 * nr r d + nc c d) = 4 then (if lv = 0 then 0 else 1) else 1
theorem e_whatIs {A : Mem} {c r : Nat} (hc : c < 13) (hr : r < 9) : sp_X2_whatIs A (nI c) (nI r) = gI A 3 (13 * r + c) ∧ vc_X2_whatIs A (nI c) (nI r) := by
  obtain ⟨g1, g2⟩ := g_lo c hc
  obtain ⟨g3, g4, -⟩ := g_lr r hr
  obtain ⟨i1, -, i2, -⟩ := g_ix c hc r hr
  unfold sp_X2_whatIs vc_X2_whatIs
  rw [if_neg g1, if_neg g2, if_neg g3, if_pos g4, if_neg g1, if_neg g2, if_neg g3, if_pos g4, i1]
  exact ⟨rfl, i2⟩
theorem e_isOpen {A : Mem} {h c r d : Nat} (hc : c < 13) (hr : r < 9) (hd : d < 4) (h0 : gI A h 0 = nI c) (h1 : gI A h 1 = nI r) (hce : ∀ j, j < 117 → gI A 3 j ≠ -1) : sp_X2_isOpen A h (nI d) = opn A c r d (gI A h 5) ∧ vc_X2_isOpen A h (nI d) := by
  unfold sp_X2_isOpen vc_X2_isOpen
  rw [h0, h1, (g_nc c hc d hd).1, (g_nr r hr d hd).1]
  have hn := (g_nc c hc d hd).2.2
  obtain ⟨g1, g2⟩ := g_lo _ hn
  rcases (g_nr r hr d hd).2 with ⟨ho, hx⟩ | ⟨ho, hx, hx2⟩
  · have e : sp_X2_whatIs A (nI (nc c d)) (nI r + sp_X7_down (nI d)) = -1 ∧ vc_X2_whatIs A (nI (nc c d)) (nI r + sp_X7_down (nI d)) := by
      unfold sp_X2_whatIs vc_X2_whatIs
      rw [if_neg g1, if_neg g2, if_neg g1, if_neg g2]
      rcases hx with hx | ⟨x1, x2, -⟩
      · rw [if_pos hx, if_pos hx]; exact ⟨rfl, trivial⟩
      · rw [if_neg x1, if_neg x2, if_neg x1, if_neg x2]; exact ⟨rfl, trivial⟩
    rw [e.1]
    refine ⟨?_, e.2, ?_⟩
    · unfold opn
      rw [if_pos ho]
      rfl
    · exact Or.inl rfl
  · rw [hx, (e_whatIs hn hx2).1]
    have hj : 13 * nr r d + nc c d < 117 := by omega
    have hm := hce _ hj
    refine ⟨?_, (e_whatIs hn hx2).2, ?_⟩
    · unfold opn
      rw [if_neg (by rw [ho]; decide)]
      simp only [sp_X2_isOpen_B48, sp_X2_isOpen_B47, sp_X2_isOpen_B43, sp_X2_isOpen_n1, sp_X2_isOpen]
      rw [if_neg hm]
    · simp only [vc_X2_isOpen_B48, vc_X2_isOpen_B47, vc_X2_isOpen_B43, vc_X2_isOpen_n1, vc_X2_isOpen]
      repeat' split
      all_goals simp
theorem ra_pos : ∀ a, a < 5 → (nI a ≤ 0 ↔ a = 0) ∧ vp_in (nI a) 5 := by unfold vp_in; decide +kernel
theorem e_open {A B : Mem} {a c r d : Nat} (hR : Rl A B) (ha : a < 5) (hc : c < 13) (hr : r < 9) (hd : d < 4) (h0 : gI A (5 + a) 0 = nI c) (h1 : gI A (5 + a) 1 = nI r) (hl0 : a = 0 → gI A (5 + a) 5 = 0) : sp_X7_open B (nI a) (nI d) = opn A c r d (gI A (5 + a) 5) ∧ vc_X7_open B (nI a) (nI d) := by
  have ea : (nI a).toNatClampNeg = a := nI_cl (by omega)
  have d5 : ∀ c, c = 23 ∨ c = 24 ∨ c = 29 → dI c a = true := by
    intro c hc
    rcases hc with rfl | rfl | rfl <;> exact decide_eq_true ha
  have b0 : gI B 23 a = nI c := (hR.1 23 a (d5 23 (by simp))).trans h0
  have b1 : gI B 24 a = nI r := (hR.1 24 a (d5 24 (by simp))).trans h1
  have b2 : gI B 29 a = gI A (5 + a) 5 := hR.1 29 a (d5 29 (by simp))
  obtain ⟨ra, rv⟩ := ra_pos a ha
  unfold sp_X7_open vc_X7_open
  have er : sp_X7_nextRow B (nI a) (nI d) = nI r + sp_X7_down (nI d) := by unfold sp_X7_nextRow; rw [ea, b1]
  have ec : sp_X7_nextColumn B (nI a) (nI d) = nI (nc c d) := by unfold sp_X7_nextColumn; rw [ea, b0, (g_nc c hc d hd).2.1]
  have hn := (g_nc c hc d hd).2.2
  rw [er]
  rcases (g_nr r hr d hd).2 with ⟨ho, hx⟩ | ⟨ho, hx, hx2⟩
  · unfold sp_X7_open_n2 vc_X7_open_n2 opn
    rw [if_pos ho]
    rcases hx with hx | ⟨x1, -, x2⟩
    · rw [if_pos hx, if_pos hx]; exact ⟨rfl, rv, trivial⟩
    · rw [if_neg x1, if_neg x2, if_neg x1, if_neg x2]; exact ⟨rfl, rv, trivial⟩
  · rw [hx]
    obtain ⟨g3, -, g4⟩ := g_lr _ hx2
    obtain ⟨-, i1, -, i2⟩ := g_ix _ hn _ hx2
    have hj : 13 * nr r d + nc c d < 117 := by omega
    have bc : gI B 22 (13 * nr r d + nc c d) = gI A 3 (13 * nr r d + nc c d) := hR.1 22 _ (decide_eq_true hj)
    unfold sp_X7_open_n2 vc_X7_open_n2 opn
    rw [if_neg (show ¬ outM r d = true by rw [ho]; decide), if_neg g3, if_pos g4, if_neg g3, if_pos g4, ec, i1, bc]
    generalize gI A 3 (13 * nr r d + nc c d) = w
    simp only [sp_X7_open_n1, vc_X7_open_n1, sp_X7_open_B66, sp_X7_open_B62, sp_X7_open_B67, vc_X7_open_B66, vc_X7_open_B62, vc_X7_open_B67, ea, b2]
    refine ⟨?_, rv, rv, i2, ?_⟩
    · by_cases w1 : w = 1
      · rw [if_pos w1, if_pos w1]
      · rw [if_neg w1, if_neg w1]
        by_cases w4 : w = 4
        · rw [if_pos w4, if_pos w4]
          by_cases a0 : a = 0
          · rw [if_pos (ra.mpr a0), if_pos (hl0 a0)]
          · rw [if_neg (fun z => a0 (ra.mp z))]
        · rw [if_neg w4, if_neg w4]
    · repeat' split
      all_goals simp [rv]
