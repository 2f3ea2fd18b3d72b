theorem g_rfK (A : Mem) (k a b : Nat) : gI (rfK A k) a b = if a = 3 ∧ b < k then planF b else if a = 2 ∧ b = 1 then nI (cntC planF k) else gI A a b := rfl
theorem rfK_s1 (A : Mem) (k : Nat) (h : planF k = 2 ∨ planF k = 3) : wI (wI (rfK A k) 3 k (planF k)) 2 1 (gI (wI (rfK A k) 3 k (planF k)) 2 1 + 1) = rfK A (k + 1) := by
  refine Mem.ext' (fun a b => ?_) (fun a b => rfl)
  have e := cnt_s k
  rw [if_pos h] at e
  simp only [gI_wI, g_rfK]
  by_cases h2 : a = 2 ∧ b = 1
  · obtain ⟨rfl, rfl⟩ := h2
    simp [e]
  · rw [if_neg h2, if_neg h2, if_neg h2]
    by_cases h3 : a = 3
    · subst h3
      by_cases hb : b = k
      · subst hb
        simp
      · by_cases hb2 : b < k
        · rw [if_neg (fun z => hb z.2), if_pos ⟨rfl, hb2⟩, if_pos ⟨rfl, by omega⟩]
        · rw [if_neg (fun z => hb z.2), if_neg (fun z => hb2 z.2), if_neg (fun z => hb2 (by have := z.2; omega))]
    · rw [if_neg (fun z => h3 z.1), if_neg (fun z => h3 z.1), if_neg (fun z => h3 z.1)]
theorem rfK_s0 (A : Mem) (k : Nat) (h : ¬ (planF k = 2 ∨ planF k = 3)) : wI (rfK A k) 3 k (planF k) = rfK A (k + 1) := by
  refine Mem.ext' (fun a b => ?_) (fun a b => rfl)
  have e := cnt_s k
  rw [if_neg h, Int32.add_zero] at e
  simp only [gI_wI, g_rfK]
  by_cases h2 : a = 2 ∧ b = 1
  · obtain ⟨rfl, rfl⟩ := h2
    simp [e]
  · rw [if_neg h2, if_neg h2]
    by_cases h3 : a = 3
    · subst h3
      by_cases hb : b = k
      · subst hb
        simp
      · by_cases hb2 : b < k
        · rw [if_neg (fun z => hb z.2), if_pos ⟨rfl, hb2⟩, if_pos ⟨rfl, by omega⟩]
        · rw [if_neg (fun z => hb z.2), if_neg (fun z => hb2 z.2), if_neg (fun z => hb2 (by have := z.2; omega))]
    · rw [if_neg (fun z => h3 z.1), if_neg (fun z => h3 z.1), if_neg (fun z => h3 z.1)]
theorem refill_loop (A : Mem) : ∀ n k, k ≤ 117 → 117 < k + n → sp_X2_refill_B7 n (nI k) (rfK A k) = rfK A 117 ∧ vc_X2_refill_B7 n (nI k) (rfK A k) := by
  intro n
  induction n with
  | zero => intro k h1 h2; omega
  | succ n ih =>
    intro k h1 h2
    by_cases hk : k = 117
    · subst hk
      exact ⟨rfl, trivial⟩
    · have hk : k < 117 := by omega
      obtain ⟨x1, x2, x3, x4, -⟩ := ix117 k hk
      have hs := ih (k + 1) (by omega) (by omega)
      simp only [sp_X2_refill_B7, vc_X2_refill_B7, if_neg x3, x2, pl_nar k hk, sp_X2_refill_n3, vc_X2_refill_n3, sp_X2_refill_B47, vc_X2_refill_B47, sp_X2_refill_B57, vc_X2_refill_B57, sp_X2_refill_n1, vc_X2_refill_n1, sp_X2_refill_n2, vc_X2_refill_n2, x4]
      have er : gI (wI (rfK A k) 3 k (planF k)) 3 k = planF k := by rw [gI_wI, if_pos ⟨rfl, rfl⟩]
      rw [er]
      by_cases p2 : planF k = 2
      · rw [if_pos p2, if_pos p2, rfK_s1 A k (Or.inl p2)]
        exact ⟨hs.1, x1, x1, x1, hs.2⟩
      · rw [if_neg p2, if_neg p2]
        by_cases p3 : planF k = 3
        · rw [if_pos p3, if_pos p3, rfK_s1 A k (Or.inr p3)]
          exact ⟨hs.1, x1, x1, x1, x1, hs.2⟩
        · rw [if_neg p3, if_neg p3, rfK_s0 A k (by rintro (z | z) <;> contradiction)]
          exact ⟨hs.1, x1, x1, x1, x1, hs.2⟩
theorem e_refill (A : Mem) : sp_X2_refill A = fillX A ∧ vc_X2_refill A := by
  have h := refill_loop A 118 0 (by decide) (by decide)
  have e : rfK A 0 = wI A 2 1 0 := by
    refine Mem.ext' (fun a b => ?_) (fun a b => rfl)
    rw [g_rfK, gI_wI, if_neg (by omega)]
    rfl
  rw [e] at h
  exact h
def fmK (B : Mem) (k : Nat) : Mem := (fun a b => if a = 22 ∧ b < k then B.1 21 b else B.1 a b, B.2)
theorem g_fmK (B : Mem) (k a b : Nat) : gI (fmK B k) a b = if a = 22 ∧ b < k then gI B 21 b else gI B a b := rfl
theorem fmK_s (B : Mem) (k : Nat) : wI (fmK B k) 22 k (gI B 21 k) = fmK B (k + 1) := by
  refine Mem.ext' (fun a b => ?_) (fun a b => rfl)
  simp only [gI_wI, g_fmK]
  by_cases h3 : a = 22
  · subst h3
    by_cases hb : b = k
    · subst hb
      simp
    · by_cases hb2 : b < k
      · rw [if_neg (fun z => hb z.2), if_pos ⟨rfl, hb2⟩, if_pos ⟨rfl, by omega⟩]
      · rw [if_neg (fun z => hb z.2), if_neg (fun z => hb2 z.2), if_neg (fun z => hb2 (by have := z.2; omega))]
  · rw [if_neg (fun z => h3 z.1), if_neg (fun z => h3 z.1), if_neg (fun z => h3 z.1)]
theorem fill_loop (B : Mem) : ∀ n k, k ≤ 117 → 117 < k + n → sp_X7_fill_B2 n (nI k) (fmK B k) = fmK B 117 ∧ vc_X7_fill_B2 n (nI k) (fmK B k) := by
  intro n
  induction n with
  | zero => intro k h1 h2; omega
  | succ n ih =>
    intro k h1 h2
    by_cases hk : k = 117
    · subst hk
      exact ⟨rfl, trivial⟩
    · have hk : k < 117 := by omega
      obtain ⟨x1, x2, x3, x4, -⟩ := ix117 k hk
      have hs := ih (k + 1) (by omega) (by omega)
      have er : gI (fmK B k) 21 k = gI B 21 k := by rw [g_fmK, if_neg (by omega)]
      simp only [sp_X7_fill_n1, sp_X7_fill_n2, sp_X7_fill_B2, sp_X7_fill, vc_X7_fill_n1, vc_X7_fill_n2, vc_X7_fill_B2, vc_X7_fill, if_neg x3, x2, x4, er, fmK_s]
      exact ⟨hs.1, x1, x1, hs.2⟩
theorem e_fill (B : Mem) : sp_X7_fill B = fillM B ∧ vc_X7_fill B := by
  have h := fill_loop B 118 0 (by decide) (by decide)
  have e : fmK B 0 = B := Mem.ext' (fun a b => by rw [g_fmK, if_neg (by omega)]) (fun a b => rfl)
  rw [e] at h
  exact h
theorem g_fillX (A : Mem) (a b : Nat) : gI (fillX A) a b = if a = 3 ∧ b < 117 then planF b else if a = 2 ∧ b = 1 then nI (cntC planF 117) else gI A a b := rfl
theorem g_fillM (B : Mem) (a b : Nat) : gI (fillM B) a b = if a = 22 ∧ b < 117 then gI B 21 b else gI B a b := rfl
theorem P_fill {A B : Mem} (hR : Rl A B) : Rl (fillX A) (fillM B) := by
  refine ⟨fun c k h => ?_, hR.2.1, fun j hj => ?_⟩
  · rw [g_fillM, g_fillX]
    by_cases h22 : c = 22
    · subst h22
      have hk : k < 117 := of_decide_eq_true h
      rw [if_pos ⟨rfl, hk⟩, if_pos ⟨rfl, hk⟩]
      exact hR.2.2 k hk
    · have e := nu_mu h
      rw [if_neg (fun z => h22 z.1), if_neg (fun z => by
        rw [z.1] at e
        exact h22 (congrArg Prod.fst e).symm), if_neg (fun z => by
        rw [z.1, z.2] at e
        have e1 : (99 : Nat) = c := congrArg Prod.fst e
        subst e1
        cases h)]
      exact hR.1 c k h
  · rw [g_fillM, if_neg (by omega)]
    exact hR.2.2 j hj
theorem fillX_eqc (A : Mem) (n : Nat) (h2 : n ≠ 2) (h3 : n ≠ 3) : eqc A (fillX A) n := ⟨fun k => by rw [g_fillX, if_neg (fun z => h3 z.1), if_neg (fun z => h2 z.1)], fun k => rfl⟩
theorem cntC_congr {f g : Nat → Int32} : ∀ n, (∀ j, j < n → f j = g j) → cntC f n = cntC g n := by
  intro n
  induction n with
  | zero => intro _; rfl
  | succ n ih =>
    intro h
    show cntC f n + _ = cntC g n + _
    rw [ih (fun j hj => h j (by omega)), h n (by omega)]
theorem fillX_CE (A : Mem) : CE (fillX A) ∧ LE (fillX A) := by
  have q : ∀ j, j < 117 → gI (fillX A) 3 j = planF j := fun j hj => by rw [g_fillX, if_pos ⟨rfl, hj⟩]
  refine ⟨fun j hj => Or.inl (q j hj), ?_⟩
  unfold LE
  rw [cntC_congr 117 q, g_fillX, if_neg (by decide), if_pos (by decide)]
/-- the scalars of the board and of the game -/
theorem sc20 {k : Nat} (h : dI 20 k = true) : k = 2 ∨ k = 3 ∨ k = 4 ∨ k = 5 ∨ k = 6 ∨ k = 7 ∨ k = 8 ∨ k = 9 ∨ k = 10 ∨ k = 11 ∨ k = 12 ∨ k = 13 ∨ k = 14 ∨ k = 15 ∨ k = 28 ∨ k = 29 ∨ k = 30 := by
  have h : (2 ≤ k ∧ k ≤ 15) ∨ (28 ≤ k ∧ k ≤ 30) := of_decide_eq_true h
  omega
theorem Rl.s {A B : Mem} (hR : Rl A B) : gI B 20 2 = gI A 0 2 ∧ gI B 20 3 = gI A 1 3 ∧ gI B 20 4 = gI A 1 4 ∧ gI B 20 5 = gI A 1 5 ∧ gI B 20 6 = gI A 1 9 ∧ gI B 20 7 = gI A 1 6 ∧ gI B 20 8 = gI A 1 7 ∧ gI B 20 9 = gI A 1 10 ∧ gI B 20 10 = gI A 1 11 ∧ gI B 20 11 = gI A 1 8 ∧ gI B 20 12 = gI A 0 4 ∧ gI B 20 13 = gI A 0 5 ∧ gI B 20 14 = gI A 1 12 ∧ gI B 20 15 = gI A 0 3 ∧ gI B 20 28 = gI A 1 13 ∧ gI B 20 29 = gI A 1 14 ∧ gI B 20 30 = gI A 1 15 :=
  ⟨hR.1 20 2 rfl, hR.1 20 3 rfl, hR.1 20 4 rfl, hR.1 20 5 rfl, hR.1 20 6 rfl, hR.1 20 7 rfl, hR.1 20 8 rfl, hR.1 20 9 rfl, hR.1 20 10 rfl, hR.1 20 11 rfl, hR.1 20 12 rfl, hR.1 20 13 rfl, hR.1 20 14 rfl, hR.1 20 15 rfl, hR.1 20 28 rfl, hR.1 20 29 rfl, hR.1 20 30 rfl⟩
theorem mu_hi {c k : Nat} (h : dI c k = true) (hc : c ≠ 20) : (mu c k).1 ≠ 0 ∧ (mu c k).1 ≠ 1 := by
  have e := nu_mu h
  refine ⟨fun z => ?_, fun z => ?_⟩ <;> rw [z] at e
  · have : ∀ b, (nu 0 b).1 = 20 ∨ (nu 0 b).1 = 99 := by
      intro b
      simp only [nu]
      split <;> simp
    rcases this (mu c k).2 with q | q <;> rw [e] at q
    · exact hc q
    · have q : c = 99 := q
      subst q; cases h
  · have : ∀ b, (nu 1 b).1 = 20 ∨ (nu 1 b).1 = 99 := by
      intro b
      simp only [nu]
      split <;> simp
    rcases this (mu c k).2 with q | q <;> rw [e] at q
    · exact hc q
    · have q : c = 99 := q
      subst q; cases h
theorem Rl.scal {A B A' B' : Mem} (hR : Rl A B) (hA : ∀ c, c ≠ 0 → c ≠ 1 → eqc A A' c) (hB : ∀ c, c ≠ 20 → eqc B B' c) (h : gI B' 20 2 = gI A' 0 2 ∧ gI B' 20 3 = gI A' 1 3 ∧ gI B' 20 4 = gI A' 1 4 ∧ gI B' 20 5 = gI A' 1 5 ∧ gI B' 20 6 = gI A' 1 9 ∧ gI B' 20 7 = gI A' 1 6 ∧ gI B' 20 8 = gI A' 1 7 ∧ gI B' 20 9 = gI A' 1 10 ∧ gI B' 20 10 = gI A' 1 11 ∧ gI B' 20 11 = gI A' 1 8 ∧ gI B' 20 12 = gI A' 0 4 ∧ gI B' 20 13 = gI A' 0 5 ∧ gI B' 20 14 = gI A' 1 12 ∧ gI B' 20 15 = gI A' 0 3 ∧ gI B' 20 28 = gI A' 1 13 ∧ gI B' 20 29 = gI A' 1 14 ∧ gI B' 20 30 = gI A' 1 15) : Rl A' B' := by
  refine ⟨fun c k hk => ?_, fun c k hk => ?_, fun j hj => ?_⟩
  · by_cases hc : c = 20
    · subst hc
      obtain ⟨h2, h3, h4, h5, h6, h7, h8, h9, h10, h11, h12, h13, h14, h15, h28, h29, h30⟩ := h
      rcases sc20 hk with rfl | rfl | rfl | rfl | rfl | rfl | rfl | rfl | rfl | rfl | rfl | rfl | rfl | rfl | rfl | rfl | rfl <;> assumption
    · rw [(hB c hc).1, (hA _ (mu_hi hk hc).1 (mu_hi hk hc).2).1]
      exact hR.1 c k hk
  · have hc : c ≠ 20 := by rintro rfl; cases hk
    have hm : (muF c k).1 ≠ 0 ∧ (muF c k).1 ≠ 1 := by unfold muF; split <;> constructor <;> simp <;> omega
    rw [(hB c hc).2, (hA _ hm.1 hm.2).2]
    exact hR.2.1 c k hk
  · rw [(hB 21 (by decide)).1]
    exact hR.2.2 j hj
