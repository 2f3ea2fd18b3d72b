/-- what a frame leaves alone: the board, the voices, whether a game is on -/
def Kp (A A' : Mem) : Prop := (∀ n, n = 0 ∨ 10 ≤ n → eqc A A' n) ∧ gI A' 1 3 = gI A 1 3 ∧ gI A' 1 15 = gI A 1 15
theorem Kp.rf (A : Mem) : Kp A A := ⟨fun n _ => eqc.rf A n, rfl, rfl⟩
theorem Kp.tr {A B C : Mem} (h : Kp A B) (h' : Kp B C) : Kp A C := ⟨fun n hn => (h.1 n hn).tr (h'.1 n hn), h'.2.1.trans h.2.1, h'.2.2.trans h.2.2⟩
theorem Kp.wI {A B : Mem} {a k : Nat} {v : Int32} (h : Kp A B) (ha : 1 ≤ a ∧ a ≤ 9) (hk : ¬ (a = 1 ∧ (k = 3 ∨ k = 15))) : Kp A (wI B a k v) := ⟨fun n hn => (h.1 n hn).wI (by omega), by rw [gI_wI, if_neg (by omega)]; exact h.2.1, by rw [gI_wI, if_neg (by omega)]; exact h.2.2⟩
theorem Kp.wF {A B : Mem} {a k : Nat} {v : UInt32} (h : Kp A B) (ha : 1 ≤ a ∧ a ≤ 9) : Kp A (wF B a k v) := ⟨fun n hn => (h.1 n hn).wF (by omega), h.2⟩
theorem Kp.one {A A' : Mem} {h : Nat} (hh : 2 ≤ h ∧ h ≤ 9) (e : ∀ n, n ≠ h → eqc A A' n) : Kp A A' := ⟨fun n hn => e n (by omega), (e 1 (by omega)).1 3, (e 1 (by omega)).1 15⟩
theorem i5 : ∀ a, a < 5 → ¬ (5 : Int32) ≤ nI a ∧ nI a + 1 = nI (a + 1) := by decide +kernel
theorem P_scareL {N : Nat} : ∀ n a (A B : Mem), 1 ≤ a → a ≤ 5 → 5 < a + n → Rl A B → GI N A → GI N (sp_X1_frightenHunters_B26 n (nI a) A) ∧ Rl (sp_X1_frightenHunters_B26 n (nI a) A) (sp_X7_scare_B46 n (nI a) B) ∧ vc_X1_frightenHunters_B26 n (nI a) A ∧ vc_X7_scare_B46 n (nI a) B ∧ Kp A (sp_X1_frightenHunters_B26 n (nI a) A) := by
  intro n
  induction n with
  | zero => intro a A B h1 h2 h3; omega
  | succ n ih =>
    intro a A B h1 h2 h3 hR hG
    by_cases h5 : a = 5
    · subst h5
      exact ⟨hG, hR, trivial, trivial, Kp.rf A⟩
    · have ha : a < 5 := by omega
      have ea : (nI a).toNatClampNeg = a := nI_cl (by omega)
      have rv := (ra_pos a ha).2
      obtain ⟨i1, i2⟩ := i5 a ha
      obtain ⟨d0, d1, d2, d4, d6, d5, -, -, d3⟩ := dA ha
      have bl : gI B 29 a = gI A (5 + a) 5 := hR.1 29 a d5
      simp only [sp_X1_frightenHunters_B26, sp_X7_scare_B46, vc_X1_frightenHunters_B26, vc_X7_scare_B46, if_neg i1, ea, bl]
      by_cases hl : gI A (5 + a) 5 = 0
      · simp only [if_pos hl]
        obtain ⟨g, e, v, B', r, k, kv⟩ := P_turn hR hG h1 ha hl
        rw [k]
        have hs := ih (a + 1) _ _ (by omega) (by omega) (by omega) r g
        simp only [sp_X1_frightenHunters_n3, sp_X1_frightenHunters_n2, sp_X1_frightenHunters_B63, sp_X1_frightenHunters_n1, vc_X1_frightenHunters_n3, vc_X1_frightenHunters_n2, vc_X1_frightenHunters_B63, vc_X1_frightenHunters_n1, sp_X7_scare_B134, sp_X7_scare_n1, ea, i2]
        refine ⟨hs.1, hs.2.1, ⟨rv, rv, rv, v, hs.2.2.1⟩, ⟨rv, rv, kv _ ?_⟩, (Kp.one (by omega) e).tr hs.2.2.2.2⟩
        simp only [vc_X7_scare_B134, vc_X7_scare_n1, i2]
        exact hs.2.2.2.1
      · simp only [if_neg hl, sp_X1_frightenHunters_B63, sp_X1_frightenHunters_n1, vc_X1_frightenHunters_B63, vc_X1_frightenHunters_n1, sp_X7_scare_B134, sp_X7_scare_n1, vc_X7_scare_B134, vc_X7_scare_n1, i2]
        have hs := ih (a + 1) A B (by omega) (by omega) (by omega) hR hG
        exact ⟨hs.1, hs.2.1, ⟨rv, hs.2.2.1⟩, ⟨rv, hs.2.2.2.1⟩, hs.2.2.2.2⟩
theorem fr_lt {k : Nat} (h : 7 ≤ k) (hk : k ≤ 40000) : (100 : Int32) - 15 * nI k < 10 := by
  rw [Int32.lt_iff_toInt_lt, Int32.toInt_sub, Int32.toInt_mul, nI_toInt (by omega)]
  rw [show (15 : Int32).toInt = 15 from rfl, show (100 : Int32).toInt = 100 from rfl, show (10 : Int32).toInt = 10 from rfl]
  rw [Int.bmod_eq_of_le (n := 15 * (k : Int)) (by omega) (by omega), Int.bmod_eq_of_le (by omega) (by omega)]
  omega
theorem fr_in {k : Nat} (hk : k ≤ 40000) : inR 101 (sp_J9_max_7cf53 (100 - 15 * nI k) 10) := by
  have h0 : ∀ k, k < 7 → sp_J9_max_7cf53 (100 - 15 * nI k) 10 = nI (100 - 15 * k) := by decide +kernel
  by_cases h : k < 7
  · exact ⟨100 - 15 * k, by omega, h0 k h⟩
  · refine ⟨10, by decide, ?_⟩
    simp only [sp_J9_max_7cf53_B10, sp_J9_max_7cf53]
    rw [if_pos (fr_lt (by omega) hk)]
    rfl
theorem P_fright {N : Nat} {A B : Mem} (hN : N ≤ 40000) (hR : Rl A B) (hG : GI N A) : GI N (sp_X1_frightenHunters A) ∧ Rl (sp_X1_frightenHunters A) (sp_X7_scare_n10 B) ∧ vc_X1_frightenHunters A ∧ vc_X7_scare_n10 B ∧ Kp A (sp_X1_frightenHunters A) := by
  obtain ⟨s2, s3, s4, s5, s6, s7, s8, s9, s10, s11, -⟩ := hR.s
  obtain ⟨k, hk, ek⟩ := hG.2.2.2.2.2.2.1
  have fi := fr_in (Nat.le_trans hk hN)
  rw [← ek] at fi
  have eM : sp_X7_scare_n10 B = sp_X7_scare_B46 6 1 (wI (wI B 20 9 (sp_J9_max_7cf53 (100 - 15 * gI A 1 7) 10)) 20 11 0) ∧ (vc_X7_scare_n10 B ↔ vc_X7_scare_B46 6 1 (wI (wI B 20 9 (sp_J9_max_7cf53 (100 - 15 * gI A 1 7) 10)) 20 11 0)) := by
    simp only [sp_X7_scare_n10, vc_X7_scare_n10, s8, sp_J9_max_7cf53_B10, sp_J9_max_7cf53, sp_X7_scare_B36, sp_X7_scare_n9, sp_X7_scare_n8, vc_X7_scare_B36, vc_X7_scare_n9, vc_X7_scare_n8]
    by_cases c : (100 : Int32) - 15 * gI A 1 7 < 10
    · rw [if_neg (Int32.not_le.mpr c), if_pos c, if_neg (Int32.not_le.mpr c)]
      exact ⟨rfl, Iff.rfl⟩
    · rw [if_pos (Int32.not_lt.mp c), if_neg c, if_pos (Int32.not_lt.mp c)]
      exact ⟨rfl, Iff.rfl⟩
  rw [eM.1, eM.2]
  have hR2 : Rl (wI (wI A 1 10 (sp_J9_max_7cf53 (100 - 15 * gI A 1 7) 10)) 1 8 0) (wI (wI B 20 9 (sp_J9_max_7cf53 (100 - 15 * gI A 1 7) 10)) 20 11 0) := (hR.wi (c := 20) (k := 9) rfl rfl rfl).wi (c := 20) (k := 11) rfl rfl rfl
  have hG2 : GI N (wI (wI A 1 10 (sp_J9_max_7cf53 (100 - 15 * gI A 1 7) 10)) 1 8 0) := by
    obtain ⟨h1, h2, h3, h4, g1, g2, g3, g4, g5, g6⟩ := hG
    have e : ∀ n, n ≠ 1 → eqc A (wI (wI A 1 10 (sp_J9_max_7cf53 (100 - 15 * gI A 1 7) 10)) 1 8 0) n := fun n hn => ((eqc.rf A n).wI hn).wI hn
    refine ⟨h1.congr (e 3 (by decide)), h2.congr (e 3 (by decide)) ((e 2 (by decide)).1 1), h3.congr (e 5 (by decide)), fun h a b => (h4 h a b).congr (e h (by omega)), ?_⟩
    unfold GS
    simp only [gI_wI]
    simp
    exact ⟨g1, g2, g3, ⟨0, by decide, rfl⟩, g5, fi⟩
  have hs := P_scareL 6 1 _ _ (by decide) (by decide) (by decide) hR2 hG2
  exact ⟨hs.1, hs.2.1, hs.2.2.1, hs.2.2.2.1, (((Kp.rf A).wI (by decide) (by decide)).wI (by decide) (by decide)).tr hs.2.2.2.2⟩
theorem pt_w (A : Mem) (p : Int32) (k : Nat) (v : Int32) (h : k ≠ 4 ∧ k ≠ 5 ∧ k ≠ 6 ∧ k ≠ 9) : sp_X1_addPoints (wI A 1 k v) p = wI (sp_X1_addPoints A p) 1 k v := by
  rw [e_addPoints, e_addPoints]
  have q : ∀ j, j = 4 ∨ j = 5 ∨ j = 6 ∨ j = 9 → gI (wI A 1 k v) 1 j = gI A 1 j := fun j hj => by rw [gI_wI, if_neg (by omega)]
  unfold ptX
  rw [q 4 (by simp), q 5 (by simp), q 6 (by simp), q 9 (by simp)]
  have w : ∀ (M : Mem) (j : Nat) (x : Int32), j = 4 ∨ j = 5 ∨ j = 6 ∨ j = 9 → wI (wI M 1 k v) 1 j x = wI (wI M 1 j x) 1 k v := fun M j x hj => wI_comm M v x (by omega)
  split
  · rw [w _ 4 _ (by simp), w _ 5 _ (by simp)]
  · split
    · rw [w _ 4 _ (by simp), w _ 5 _ (by simp), w _ 9 _ (by simp), w _ 6 _ (by simp)]
    · rw [w _ 4 _ (by simp), w _ 5 _ (by simp)]
theorem pt_Kp (A : Mem) (p : Int32) : Kp A (sp_X1_addPoints A p) := ⟨fun n hn => pt_eqc A p n (by omega), pt_keep A p 3 (by decide), pt_keep A p 15 (by decide)⟩
theorem wI_id {M : Mem} {c k : Nat} {v : Int32} (h : gI M c k = v) : wI M c k v = M := by
  refine Mem.ext' (fun a b => ?_) (fun a b => rfl)
  rw [gI_wI]
  split
  · rename_i z
    rw [z.1, z.2, h]
  · rfl
theorem cnt_eat {f g : Nat → Int32} {j : Nat} (hj : f j = 2 ∨ f j = 3) (h0 : ¬ (g j = 2 ∨ g j = 3)) (hg : ∀ i, i ≠ j → g i = f i) : ∀ n, cntC f n = cntC g n + (if j < n then 1 else 0) := by
  intro n
  induction n with
  | zero => rfl
  | succ n ih =>
    show cntC f n + _ = cntC g n + _ + _
    rw [ih]
    by_cases q : n = j
    · subst q
      rw [if_pos hj, if_neg h0, if_neg (by omega), if_pos (by omega)]
    · rw [hg n q]
      by_cases q2 : j < n
      · simp only [if_pos q2, if_pos (show j < n + 1 by omega)]; omega
      · simp only [if_neg q2, if_neg (show ¬ j < n + 1 by omega)]; omega
theorem cnt_le (f : Nat → Int32) : ∀ n, cntC f n ≤ n := by
  intro n
  induction n with
  | zero => exact Nat.le_refl 0
  | succ n ih =>
    show cntC f n + _ ≤ _
    split <;> omega
/-- a cell's dot or energizer is eaten -/
theorem G_eat {N : Nat} {A : Mem} (hG : GI N A) {j : Nat} (hj : j < 117) (hw : gI A 3 j = 2 ∨ gI A 3 j = 3) : GI N (wI (wI A 3 j 0) 2 1 (gI (wI A 3 j 0) 2 1 - 1)) := by
  obtain ⟨h1, h2, h3, h4, h5⟩ := hG
  have e : ∀ n, n ≠ 2 → n ≠ 3 → eqc A (wI (wI A 3 j 0) 2 1 (gI (wI A 3 j 0) 2 1 - 1)) n := fun n a b => ((eqc.rf A n).wI b).wI a
  have g3 : ∀ i, gI (wI (wI A 3 j 0) 2 1 (gI (wI A 3 j 0) 2 1 - 1)) 3 i = if i = j then 0 else gI A 3 i := fun i => by
    rw [gI_wI, if_neg (by omega), gI_wI]
    simp
  refine ⟨fun i hi => ?_, ?_, h3.congr (e 5 (by decide) (by decide)), fun h a b => (h4 h a b).congr (e h (by omega) (by omega)), h5.congr (fun k _ => (e 1 (by decide) (by decide)).1 k)⟩
  · rw [g3]
    by_cases q : i = j
    · rw [if_pos q]
      right
      refine ⟨rfl, ?_⟩
      rw [q]
      rcases h1 j hj with z | ⟨z, -⟩
      · rw [← z]; exact hw
      · rw [z] at hw; rcases hw with y | y <;> exact absurd y (by decide)
    · rw [if_neg q]; exact h1 i hi
  · unfold LE
    have hc := cnt_eat (g := gI (wI (wI A 3 j 0) 2 1 (gI (wI A 3 j 0) 2 1 - 1)) 3) hw (by rw [g3, if_pos rfl]; decide) (fun i hi => by rw [g3, if_neg hi]) 117
    rw [if_pos hj] at hc
    rw [gI_wI, if_pos ⟨rfl, rfl⟩, gI_wI, if_neg (by omega), h2, hc]
    exact nI_pred _
def eaX (A : Mem) (j : Nat) : Mem := wI (wI A 3 j 0) 2 1 (gI (wI A 3 j 0) 2 1 - 1)
theorem e_eatX {A : Mem} {c r : Nat} (hc : c < 13) (hr : r < 9) (v0 : gI A 5 0 = nI c) (v1 : gI A 5 1 = nI r) :
    (gI A 3 (13 * r + c) = 2 → sp_X1_eatHere A = sp_X1_addPoints (wI (eaX A (13 * r + c)) 1 13 1) 10 ∧ vc_X1_eatHere A) ∧
    (gI A 3 (13 * r + c) = 3 → sp_X1_eatHere A = sp_X1_frightenHunters (sp_X1_addPoints (wI (eaX A (13 * r + c)) 1 14 1) 50) ∧ (vc_X1_frightenHunters (sp_X1_addPoints (wI (eaX A (13 * r + c)) 1 14 1) 50) → vc_X1_eatHere A)) ∧
    (gI A 3 (13 * r + c) ≠ 2 → gI A 3 (13 * r + c) ≠ 3 → sp_X1_eatHere A = A ∧ vc_X1_eatHere A) := by
  obtain ⟨x1, x2, x3, x4⟩ := g_ix c hc r hr
  obtain ⟨w1, w2⟩ := e_whatIs (A := A) hc hr
  have hx3 : vp_in (nI r * 13 + nI c) 117 := x3
  have eE : sp_X2_eat A (nI c) (nI r) = (if gI A 3 (13 * r + c) = 2 then (gI A 3 (13 * r + c), eaX A (13 * r + c)) else if gI A 3 (13 * r + c) = 3 then (gI A 3 (13 * r + c), eaX A (13 * r + c)) else (0, A)) ∧ vc_X2_eat A (nI c) (nI r) := by
    simp only [sp_X2_eat_n1, sp_X2_eat_n2, sp_X2_eat_B19, sp_X2_eat_n3, sp_X2_eat, vc_X2_eat_B19, vc_X2_eat_n3, vc_X2_eat, w1, x1]
    refine ⟨rfl, w2, ?_⟩
    split
    · exact hx3
    · split
      · exact hx3
      · trivial
  unfold sp_X1_eatHere vc_X1_eatHere
  rw [v0, v1, eE.1]
  refine ⟨fun h => ?_, fun h => ?_, fun h h' => ?_⟩
  · rw [if_pos h]
    dsimp only
    unfold sp_X1_eatHere_n6 vc_X1_eatHere_n6
    rw [if_pos h, if_pos h]
    exact ⟨rfl, eE.2, trivial⟩
  · have h2 : ¬ gI A 3 (13 * r + c) = 2 := by rw [h]; decide
    rw [if_neg h2, if_pos h]
    dsimp only
    unfold sp_X1_eatHere_n6 vc_X1_eatHere_n6
    rw [if_neg h2, if_pos h, if_neg h2, if_pos h]
    exact ⟨rfl, fun z => ⟨eE.2, z⟩⟩
  · rw [if_neg h, if_neg h']
    exact ⟨rfl, eE.2, trivial⟩
theorem e_eatM {B : Mem} {c r : Nat} (hc : c < 13) (hr : r < 9) (v0 : gI B 23 0 = nI c) (v1 : gI B 24 0 = nI r) (h28 : gI B 20 28 = 0) :
    (gI B 22 (13 * r + c) = 2 → sp_X7_player_B173 B = sp_X7_points (wI (wI B 22 (13 * r + c) 0) 20 28 1) 10 ∧ vc_X7_player_B173 B) ∧
    (gI B 22 (13 * r + c) = 3 → sp_X7_player_B173 B = sp_X7_scare (sp_X7_points (wI B 22 (13 * r + c) 0) 50) ∧ (vc_X7_scare (sp_X7_points (wI B 22 (13 * r + c) 0) 50) → vc_X7_player_B173 B)) ∧
    (gI B 22 (13 * r + c) ≠ 2 → gI B 22 (13 * r + c) ≠ 3 → sp_X7_player_B173 B = B ∧ vc_X7_player_B173 B) := by
  obtain ⟨x1, x2, x3, x4⟩ := g_ix c hc r hr
  have hx4 : vp_in (13 * nI r + nI c) 117 := x4
  have m28 : gI (wI B 22 (13 * r + c) 0) 20 28 = 0 := by rw [gI_wI, if_neg (by omega)]; exact h28
  unfold sp_X7_player_B173 vc_X7_player_B173
  rw [v0, v1]
  unfold sp_X7_player_n6 vc_X7_player_n6
  rw [x2]
  unfold sp_X7_player_n5 vc_X7_player_n5
  refine ⟨fun h => ?_, fun h => ?_, fun h h' => ?_⟩
  · rw [if_pos h, if_pos h, h]
    unfold sp_X7_player_B207 vc_X7_player_B207
    rw [x2]
    unfold sp_X7_player_n4 vc_X7_player_n4
    rw [if_pos m28, if_pos rfl, if_pos m28, if_pos rfl]
    unfold sp_X7_player_B227 vc_X7_player_B227 sp_X7_player_B232 vc_X7_player_B232 sp_X7_player_n3 vc_X7_player_n3
    rw [if_pos rfl, if_pos rfl]
    have d : ¬ (2 : Int32) = 3 := by decide
    unfold sp_X7_player_B248 vc_X7_player_B248 sp_X7_player_n2 vc_X7_player_n2
    rw [if_neg d, if_neg d]
    unfold sp_X7_player_B260
    exact ⟨rfl, hx4, hx4, Or.inr rfl, trivial⟩
  · have h2 : ¬ gI B 22 (13 * r + c) = 2 := by rw [h]; decide
    rw [if_neg h2, if_pos h, if_neg h2, if_pos h, h]
    unfold sp_X7_player_B207 vc_X7_player_B207
    rw [x2]
    unfold sp_X7_player_n4 vc_X7_player_n4
    have d : ¬ (3 : Int32) = 2 := by decide
    rw [if_pos m28, if_neg d, if_pos m28, if_neg d]
    unfold sp_X7_player_B232 vc_X7_player_B232
    rw [wI_id m28]
    unfold sp_X7_player_n3 vc_X7_player_n3
    rw [if_neg d, if_neg d]
    unfold sp_X7_player_B248 vc_X7_player_B248 sp_X7_player_n2 vc_X7_player_n2
    rw [if_pos rfl, if_pos rfl]
    unfold sp_X7_player_n1 sp_X7_player_B260
    exact ⟨rfl, fun z => ⟨hx4, hx4, Or.inl rfl, z⟩⟩
  · rw [if_neg h, if_neg h', if_neg h, if_neg h']
    exact ⟨rfl, hx4, trivial⟩
theorem P_eat {N : Nat} {A B : Mem} (hN : N ≤ 40000) (hR : Rl A B) (hG : GI N A) (h13 : gI A 1 13 = 0) : GI N (sp_X1_eatHere A) ∧ Rl (sp_X1_eatHere A) (sp_X7_player_B173 B) ∧ vc_X1_eatHere A ∧ vc_X7_player_B173 B ∧ Kp A (sp_X1_eatHere A) := by
  obtain ⟨c, r, d, hc, hr, hd, v0, v1, v2, hw⟩ := hG.2.2.1.1
  have hj : 13 * r + c < 117 := by omega
  have b0 : gI B 23 0 = nI c := (hR.1 23 0 rfl).trans v0
  have b1 : gI B 24 0 = nI r := (hR.1 24 0 rfl).trans v1
  have bj : gI B 22 (13 * r + c) = gI A 3 (13 * r + c) := hR.1 22 _ (decide_eq_true hj)
  obtain ⟨X2, X3, X4⟩ := e_eatX hc hr v0 v1
  obtain ⟨M2, M3, M4⟩ := e_eatM hc hr b0 b1 ((hR.1 20 28 rfl).trans h13)
  rw [bj] at M2 M3 M4
  have hR1 : Rl (eaX A (13 * r + c)) (wI B 22 (13 * r + c) 0) := (hR.wi (c := 22) (decide_eq_true hj) rfl rfl).wx rfl
  have K1 : Kp A (eaX A (13 * r + c)) := ((Kp.rf A).wI (by decide) (by omega)).wI (by decide) (by decide)
  by_cases c2 : gI A 3 (13 * r + c) = 2
  · have hG1 : GI N (eaX A (13 * r + c)) := G_eat hG hj (Or.inl c2)
    rw [(X2 c2).1, (M2 c2).1]
    exact ⟨G_points (hG1.w1 (by simp)) 10, P_points (hR1.wi (c := 20) (k := 28) rfl rfl rfl) 10, (X2 c2).2, (M2 c2).2, (K1.wI (by decide) (by decide)).tr (pt_Kp _ _)⟩
  · by_cases c3 : gI A 3 (13 * r + c) = 3
    · have hG1 : GI N (eaX A (13 * r + c)) := G_eat hG hj (Or.inr c3)
      have hR2 : Rl (wI (sp_X1_addPoints (eaX A (13 * r + c)) 50) 1 14 1) (wI (sp_X7_points (wI B 22 (13 * r + c) 0) 50) 20 29 1) := (P_points hR1 50).wi (c := 20) (k := 29) rfl rfl rfl
      have hG2 : GI N (wI (sp_X1_addPoints (eaX A (13 * r + c)) 50) 1 14 1) := (G_points hG1 50).w1 (by simp)
      have hf := P_fright hN hR2 hG2
      have x3 := X3 c3
      rw [pt_w _ _ _ _ (by decide)] at x3
      rw [x3.1, (M3 c3).1]
      exact ⟨hf.1, hf.2.1, x3.2 hf.2.2.1, (M3 c3).2 hf.2.2.2.1, ((K1.tr (pt_Kp _ _)).wI (by decide) (by decide)).tr hf.2.2.2.2⟩
    · rw [(X4 c2 c3).1, (M4 c2 c3).1]
      exact ⟨hG, hR, (X4 c2 c3).2, (M4 c2 c3).2, Kp.rf A⟩
