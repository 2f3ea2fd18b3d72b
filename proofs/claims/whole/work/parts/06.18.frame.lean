theorem meX_end {A : Mem} (h : gI A 1 15 = 1) (n : Nat) (x : Int32) : sp_X1_meetHunters_B2 (n + 1) x A = A ∧ vc_X1_meetHunters_B2 (n + 1) x A := by
  have z : ¬ gI A 1 15 = 0 := by rw [h]; decide
  constructor
  · show (if 5 ≤ x then A else (if gI A 1 15 = 0 then _ else A)) = A
    rw [if_neg z]
    split <;> rfl
  · show if 5 ≤ x then True else (if gI A 1 15 = 0 then _ else True)
    rw [if_neg z]
    split <;> trivial
theorem meM_end {B : Mem} (h : gI B 20 30 = 1) (n : Nat) (x : Int32) : sp_X7_meet_B2 (n + 1) x B = sp_X7_meet_B129 B ∧ (vc_X7_meet_B129 B → vc_X7_meet_B2 (n + 1) x B) := by
  have z : ¬ gI B 20 30 = 0 := by rw [h]; decide
  constructor
  · show (if 5 ≤ x then sp_X7_meet_B129 B else (if gI B 20 30 = 0 then _ else sp_X7_meet_B129 B)) = sp_X7_meet_B129 B
    rw [if_neg z]
    split <;> rfl
  · intro q
    show if 5 ≤ x then vc_X7_meet_B129 B else (if gI B 20 30 = 0 then _ else vc_X7_meet_B129 B)
    rw [if_neg z]
    split <;> exact q
theorem P_meetL {N : Nat} : ∀ n a (A B : Mem), 1 ≤ a → a ≤ 5 → 5 < a + n → Rl A B → GI N A → gI A 1 3 = 1 → gI A 1 15 = 0 → GI N (sp_X1_meetHunters_B2 n (nI a) A) ∧ Rl (sp_X1_meetHunters_B2 n (nI a) A) (sp_X7_meet_B2 n (nI a) B) ∧ vc_X1_meetHunters_B2 n (nI a) A ∧ vc_X7_meet_B2 n (nI a) B ∧ Kq A (sp_X1_meetHunters_B2 n (nI a) A) := by
  intro n
  induction n with
  | zero => intro a A B h1 h5 h6; omega
  | succ n ih =>
    intro a A B h1 h5 h6 hR hG hon h15
    have b30 : gI B 20 30 = 0 := (hR.1 20 30 rfl).trans h15
    by_cases a5 : a = 5
    · subst a5
      have eX : sp_X1_meetHunters_B2 (n + 1) (nI 5) A = A := if_pos (by decide)
      have eM : sp_X7_meet_B2 (n + 1) (nI 5) B = B := by
        rw [show sp_X7_meet_B2 (n + 1) (nI 5) B = if (5 : Int32) ≤ nI 5 then (sp_X7_meet_B129 B) else _ from rfl, if_pos (by decide)]
        unfold sp_X7_meet_B129
        rw [if_pos b30]; rfl
      rw [eX, eM]
      refine ⟨hG, hR, ?_, ?_, fun n _ => eqc.rf A n⟩
      · show if (5 : Int32) ≤ nI 5 then True else _
        rw [if_pos (by decide)]; trivial
      · show if (5 : Int32) ≤ nI 5 then vc_X7_meet_B129 B else _
        rw [if_pos (by decide)]
        unfold vc_X7_meet_B129
        rw [if_pos b30]; trivial
    · have ha : a < 5 := by omega
      obtain ⟨i1, i2⟩ := i5 a ha
      have ea : (nI a).toNatClampNeg = a := nI_cl (by omega)
      have rv := (ra_pos a ha).2
      obtain ⟨m1, m2⟩ := P_met hR ha
      have d4 := (dA ha).2.2.2.1
      have b4 : gI B 27 a = gI A (5 + a) 4 := hR.1 27 a d4
      rw [show sp_X1_meetHunters_B2 (n + 1) (nI a) A = if 5 ≤ nI a then _ else (if (gI A 1 15) = 0 then (if (sp_X0_meets A (5 + (nI a).toNatClampNeg) 5) = 0 then (sp_X1_meetHunters_B54 (sp_X1_meetHunters_B2 n) (nI a) A) else (if (gI A (5 + (nI a).toNatClampNeg) 4) = 0 then (sp_X1_meetHunters_n2 (sp_X1_meetHunters_B2 n) (nI a) (sp_X1_loseLife A)) else (sp_X1_meetHunters_n3 (sp_X1_meetHunters_B2 n) (nI a) (sp_X1_eatHunter A (5 + (nI a).toNatClampNeg))))) else _) from rfl, if_neg i1, if_pos h15, ea]
      rw [show vc_X1_meetHunters_B2 (n + 1) (nI a) A = if 5 ≤ nI a then True else (if (gI A 1 15) = 0 then (vp_in (nI a) 5 ∧ ((vc_X0_meets A (5 + (nI a).toNatClampNeg) 5) ∧ (if (sp_X0_meets A (5 + (nI a).toNatClampNeg) 5) = 0 then vc_X1_meetHunters_B54 (vc_X1_meetHunters_B2 n) (nI a) A else (if (gI A (5 + (nI a).toNatClampNeg) 4) = 0 then (vc_X1_loseLife A ∧ (vc_X1_meetHunters_n2 (vc_X1_meetHunters_B2 n) (nI a) (sp_X1_loseLife A))) else ((vc_X1_eatHunter A (5 + (nI a).toNatClampNeg)) ∧ (vc_X1_meetHunters_n3 (vc_X1_meetHunters_B2 n) (nI a) (sp_X1_eatHunter A (5 + (nI a).toNatClampNeg)))))))) else True) from rfl, if_neg i1, if_pos h15, ea]
      rw [show sp_X7_meet_B2 (n + 1) (nI a) B = if 5 ≤ nI a then (sp_X7_meet_B129 B) else (if (gI B 20 30) = 0 then (if (sp_X7_met B (nI a)) = 0 then (sp_X7_meet_B84 (sp_X7_meet_B2 n) (nI a) B) else (if (gI B 27 (nI a).toNatClampNeg) = 0 then (sp_X7_meet_B84 (sp_X7_meet_B2 n) (nI a) B) else (sp_X7_meet_n9 (sp_X7_meet_B2 n) (nI a) (sp_X7_points B (200 <<< ((gI B 20 11) &&& 31)))))) else (sp_X7_meet_B129 B)) from rfl, if_neg i1, if_pos b30, ea, m1, b4]
      rw [show vc_X7_meet_B2 (n + 1) (nI a) B = if 5 ≤ nI a then vc_X7_meet_B129 B else (if (gI B 20 30) = 0 then (vc_X7_met B (nI a) ∧ (if (sp_X7_met B (nI a)) = 0 then vc_X7_meet_B84 (vc_X7_meet_B2 n) (nI a) B else (vp_in (nI a) 5 ∧ (if (gI B 27 (nI a).toNatClampNeg) = 0 then vc_X7_meet_B84 (vc_X7_meet_B2 n) (nI a) B else (vc_X7_meet_n9 (vc_X7_meet_B2 n) (nI a) (sp_X7_points B (200 <<< ((gI B 20 11) &&& 31)))))))) else vc_X7_meet_B129 B) from rfl, if_neg i1, if_pos b30, ea, m1, b4]
      unfold sp_X7_meet_B84 vc_X7_meet_B84
      rw [m1]
      by_cases z : sp_X0_meets A (5 + a) 5 = 0
      · simp only [if_pos z]
        unfold sp_X1_meetHunters_B54 sp_X1_meetHunters_n1 vc_X1_meetHunters_B54 vc_X1_meetHunters_n1 sp_X7_meet_B123 sp_X7_meet_n2 vc_X7_meet_B123 vc_X7_meet_n2
        rw [i2]
        have P := ih (a + 1) A B (by omega) (by omega) (by omega) hR hG hon h15
        exact ⟨P.1, P.2.1, ⟨rv, v_meets _ _ _, P.2.2.1⟩, ⟨m2, m2, P.2.2.2.1⟩, P.2.2.2.2⟩
      · simp only [if_neg z]
        by_cases af : gI A (5 + a) 4 = 0
        · simp only [if_pos af]
          obtain ⟨l1, l2, l3, l4, B', l5, l6, l7, l8, l9⟩ := P_lose hR hG hon
          rw [l8]
          unfold sp_X1_meetHunters_n2 sp_X1_meetHunters_B54 sp_X1_meetHunters_n1 vc_X1_meetHunters_n2 vc_X1_meetHunters_B54 vc_X1_meetHunters_n1 sp_X7_meet_B123 sp_X7_meet_n2
          obtain ⟨m, rfl⟩ : ∃ m, n = m + 1 := ⟨n - 1, by omega⟩
          have x := meX_end l4 m (nI a + 1)
          have y := meM_end l5 m (nI a + 1)
          rw [x.1, y.1]
          exact ⟨l1, l6, ⟨rv, v_meets _ _ _, l2, x.2⟩, ⟨m2, rv, m2, l9 _ _ (y.2 l7)⟩, l3⟩
        · simp only [if_neg af]
          obtain ⟨e1, e2, e3, B', e4, e5, e6⟩ := P_eatH hR hG h1 ha
          rw [e5]
          unfold sp_X1_meetHunters_n3 sp_X1_meetHunters_B54 sp_X1_meetHunters_n1 vc_X1_meetHunters_n3 vc_X1_meetHunters_B54 vc_X1_meetHunters_n1 sp_X7_meet_B123 sp_X7_meet_n2
          rw [i2]
          have P := ih (a + 1) _ _ (by omega) (by omega) (by omega) e4 e1 (e3.2.1.trans hon) (e3.2.2.trans h15)
          refine ⟨P.1, P.2.1, ⟨rv, v_meets _ _ _, e2, P.2.2.1⟩, ⟨m2, rv, e6 _ ?_⟩, fun k hk => (e3.1 k hk).tr (P.2.2.2.2 k hk)⟩
          unfold vc_X7_meet_B123 vc_X7_meet_n2
          rw [i2]
          exact P.2.2.2.1
/-! how many dots and prizes are left -/
theorem P_left (B : Mem) : sp_X7_left B = nI (cntC (gI B 22) 117) ∧ vc_X7_left B := by
  have s : ∀ n i, i ≤ 117 → 117 < i + n → sp_X7_left_B4 n B (nI (cntC (gI B 22) i)) (nI i) = nI (cntC (gI B 22) 117) ∧ vc_X7_left_B4 n B (nI (cntC (gI B 22) i)) (nI i) := by
    intro n
    induction n with
    | zero => intro i h1 h2; omega
    | succ n ih =>
      intro i h1 h2
      by_cases z : i = 117
      · subst z
        constructor
        · exact if_pos (by decide)
        · show if (117 : Int32) ≤ nI 117 then True else _
          rw [if_pos (by decide)]; trivial
      · obtain ⟨q1, q2, q3, q4, -⟩ := ix117 i (by omega)
        have hc : cntC (gI B 22) i ≤ i := cnt_le _ i
        have P := ih (i + 1) (by omega) (by omega)
        have cs : cntC (gI B 22) (i + 1) = cntC (gI B 22) i + (if gI B 22 i = 2 ∨ gI B 22 i = 3 then 1 else 0) := rfl
        rw [show sp_X7_left_B4 (n + 1) B (nI (cntC (gI B 22) i)) (nI i) = if 117 ≤ nI i then _ else (if (gI B 22 (nI i).toNatClampNeg) = 2 then (sp_X7_left_B30 (sp_X7_left_B4 n) B (nI (cntC (gI B 22) i)) (nI i)) else (if (gI B 22 (nI i).toNatClampNeg) = 3 then (sp_X7_left_B30 (sp_X7_left_B4 n) B (nI (cntC (gI B 22) i)) (nI i)) else (sp_X7_left_B37 (sp_X7_left_B4 n) B (nI i) (nI (cntC (gI B 22) i))))) from rfl, if_neg q3, q2]
        rw [show vc_X7_left_B4 (n + 1) B (nI (cntC (gI B 22) i)) (nI i) = if 117 ≤ nI i then True else (vp_in (nI i) 117 ∧ (if (gI B 22 (nI i).toNatClampNeg) = 2 then vc_X7_left_B30 (vc_X7_left_B4 n) B (nI (cntC (gI B 22) i)) (nI i) else (vp_in (nI i) 117 ∧ (if (gI B 22 (nI i).toNatClampNeg) = 3 then vc_X7_left_B30 (vc_X7_left_B4 n) B (nI (cntC (gI B 22) i)) (nI i) else vc_X7_left_B37 (vc_X7_left_B4 n) B (nI i) (nI (cntC (gI B 22) i)))))) from rfl, if_neg q3, q2]
        unfold sp_X7_left_B30 sp_X7_left_B37 sp_X7_left_n1 vc_X7_left_B30 vc_X7_left_B37 vc_X7_left_n1
        rw [q4]
        have p1 : nI (cntC (gI B 22) i) + 1 = nI (cntC (gI B 22) i + 1) := (ix117 _ (by omega)).2.2.2.1
        by_cases z2 : gI B 22 i = 2
        · rw [if_pos (Or.inl z2)] at cs
          rw [cs] at P
          simp only [if_pos z2, p1]
          exact ⟨P.1, q1, P.2⟩
        · by_cases z3 : gI B 22 i = 3
          · rw [if_pos (Or.inr z3)] at cs
            rw [cs] at P
            simp only [if_neg z2, if_pos z3, p1]
            exact ⟨P.1, q1, q1, P.2⟩
          · rw [if_neg (fun h => h.elim z2 z3)] at cs
            rw [cs] at P
            simp only [if_neg z2, if_neg z3]
            exact ⟨P.1, q1, q1, P.2⟩
  exact s 118 0 (by decide) (by decide)
theorem P_n4 {N : Nat} {A B : Mem} (hN : N ≤ 40000) (hR : Rl A B) (hG : GI N A) : GI (N + 1) (sp_X1_playFrame_n4 A) ∧ Rl (sp_X1_playFrame_n4 A) (sp_X7_play_n4 B) ∧ vc_X1_playFrame_n4 A ∧ vc_X7_play_n4 B ∧ Kq A (sp_X1_playFrame_n4 A) := by
  have b30 : gI B 20 30 = gI A 1 15 := hR.1 20 30 rfl
  obtain ⟨k, hk, ek⟩ := hG.2.2.2.2.2.2.1
  have b8 : gI B 20 8 = nI k := (hR.1 20 8 rfl).trans ek
  have hl : sp_X7_left B = gI A 2 1 := by
    have q : cntC (gI B 22) 117 = cntC (gI A 3) 117 := cntC_congr 117 (fun j hj => hR.1 22 j (by show decide (j < 117) = true; exact decide_eq_true hj))
    rw [(P_left B).1, hG.2.1, q]
  have vl := (P_left B).2
  unfold sp_X1_playFrame_n4 vc_X1_playFrame_n4 sp_X7_play_n4 vc_X7_play_n4
  rw [hl, b30, ek, b8]
  by_cases z1 : gI A 2 1 = 0
  · by_cases z2 : gI A 1 15 = 0
    · simp only [if_pos z1, if_pos z2]
      have ek1 : nI k + 1 = nI (k + 1) := (nI_succ k).symm
      rw [ek1]
      have hR1 : Rl (wI A 1 7 (nI (k + 1))) (wI B 20 8 (nI (k + 1))) := hR.wi (c := 20) (k := 8) rfl rfl rfl
      have hR2 := P_fill hR1
      obtain ⟨p1, p2, p3⟩ := P_placeActors hR2
      unfold sp_X1_playFrame_n3 sp_X1_playFrame_n2 vc_X1_playFrame_n3 vc_X1_playFrame_n2 sp_X7_play_n3 sp_X7_play_n2 vc_X7_play_n3 vc_X7_play_n2
      rw [(e_refill _).1, (e_fill _).1]
      have hc := fillX_CE (wI A 1 7 (nI (k + 1)))
      have e1 : ∀ n, n ≠ 1 → n ≠ 2 → n ≠ 3 → eqc A (fillX (wI A 1 7 (nI (k + 1)))) n := fun n n1 n2 n3 => ((eqc.rf A n).wI n1).tr (fillX_eqc _ n n2 n3)
      have g : ∀ i, i ≠ 7 → gI (fillX (wI A 1 7 (nI (k + 1)))) 1 i = gI A 1 i := fun i hi => by
        rw [(fillX_eqc _ 1 (by decide) (by decide)).1, gI_wI, if_neg (by omega)]
      have g7 : gI (fillX (wI A 1 7 (nI (k + 1)))) 1 7 = nI (k + 1) := by
        rw [(fillX_eqc _ 1 (by decide) (by decide)).1, gI_wI, if_pos ⟨rfl, rfl⟩]
      obtain ⟨s1, s2, s3, s4, s5, s6⟩ := hG.2.2.2.2
      have hS : GS (N + 1) (fillX (wI A 1 7 (nI (k + 1)))) := by
        refine ⟨?_, ?_, ⟨k + 1, by omega, g7⟩, ?_, ?_, ?_⟩
        · rw [g 3 (by decide)]; exact s1
        · rw [g 3 (by decide), g 6 (by decide), g 9 (by decide)]; exact s2
        · rw [g 8 (by decide)]; exact s4
        · rw [g 9 (by decide)]; exact s5
        · rw [g 10 (by decide)]; exact s6
      refine ⟨G_placeActors hc.1 hc.2 hS, p1, ⟨(e_refill _).2, p2⟩, ⟨vl, (e_fill _).2, p3⟩, fun n hn => (e1 n (by omega) (by omega) (by omega)).tr ?_⟩
      show eqc _ (sp_X1_placeActors _) n
      rw [e_placeActors]
      exact (((((((place_eqc _ _ _ _ _ _ n (by omega)).tr (place_eqc _ _ _ _ _ _ n (by omega))).tr (place_eqc _ _ _ _ _ _ n (by omega))).tr (place_eqc _ _ _ _ _ _ n (by omega))).tr (place_eqc _ _ _ _ _ _ n (by omega))).wI (by omega)).wI (by omega))
    · simp only [if_pos z1, if_neg z2]
      exact ⟨hG.up, hR, trivial, trivial, fun n _ => eqc.rf A n⟩
  · simp only [if_neg z1]
    refine ⟨hG.up, ?_, trivial, ?_, fun n _ => eqc.rf A n⟩
    · split <;> exact hR
    · split
      · exact ⟨vl, trivial⟩
      · trivial
theorem P_huntL {N : Nat} (hN : N ≤ 40000) : ∀ n a (A B : Mem), 1 ≤ a → a ≤ 5 → 5 < a + n → Rl A B → GI N A → gI A 1 3 = 1 → gI A 1 15 = 0 → GI (N + 1) (sp_X1_playFrame_B63 n (nI a) A) ∧ Rl (sp_X1_playFrame_B63 n (nI a) A) (sp_X7_play_B84 n (nI a) B) ∧ vc_X1_playFrame_B63 n (nI a) A ∧ vc_X7_play_B84 n (nI a) B ∧ Kq A (sp_X1_playFrame_B63 n (nI a) A) := by
  intro n
  induction n with
  | zero => intro a A B h1 h5 h6; omega
  | succ n ih =>
    intro a A B h1 h5 h6 hR hG hon h15
    by_cases a5 : a = 5
    · subst a5
      rw [show sp_X1_playFrame_B63 (n + 1) (nI 5) A = sp_X1_playFrame_n4 (sp_X1_meetHunters A) from if_pos (by decide), show sp_X7_play_B84 (n + 1) (nI 5) B = sp_X7_play_n4 (sp_X7_meet B) from if_pos (by decide)]
      have P := P_meetL 6 1 A B (by decide) (by decide) (by decide) hR hG hon h15
      have Q := P_n4 hN P.2.1 P.1
      refine ⟨Q.1, Q.2.1, ?_, ?_, fun k hk => (P.2.2.2.2 k hk).tr (Q.2.2.2.2 k hk)⟩
      · show if (5 : Int32) ≤ nI 5 then (vc_X1_meetHunters A ∧ (vc_X1_playFrame_n4 (sp_X1_meetHunters A))) else _
        rw [if_pos (by decide)]
        exact ⟨P.2.2.1, Q.2.2.1⟩
      · show if (5 : Int32) ≤ nI 5 then (vc_X7_meet B ∧ (vc_X7_play_n4 (sp_X7_meet B))) else _
        rw [if_pos (by decide)]
        exact ⟨P.2.2.2.1, Q.2.2.2.1⟩
    · have ha : a < 5 := by omega
      obtain ⟨i1, i2⟩ := i5 a ha
      have P := P_hunter hN hR hG h1 ha
      have Q := ih (a + 1) _ _ (by omega) (by omega) (by omega) P.2.1 P.1 (P.2.2.2.2.2.1.trans hon) (P.2.2.2.2.2.2.trans h15)
      have eX : sp_X1_playFrame_B63 (n + 1) (nI a) A = sp_X1_playFrame_B63 n (nI (a + 1)) (sp_X1_moveHunter A (nI a)) := by
        rw [← i2]; exact if_neg i1
      have eM : sp_X7_play_B84 (n + 1) (nI a) B = sp_X7_play_B84 n (nI (a + 1)) (sp_X7_hunter B (nI a)) := by
        rw [← i2]; exact if_neg i1
      rw [eX, eM]
      refine ⟨Q.1, Q.2.1, ?_, ?_, fun k hk => (P.2.2.2.2.1 k hk).tr (Q.2.2.2.2 k hk)⟩
      · show if 5 ≤ nI a then _ else (vc_X1_moveHunter A (nI a) ∧ (vc_X1_playFrame_B63 n (nI a + 1) (sp_X1_moveHunter A (nI a))))
        rw [if_neg i1, i2]
        exact ⟨P.2.2.1, Q.2.2.1⟩
      · show if 5 ≤ nI a then _ else (vc_X7_hunter B (nI a) ∧ (vc_X7_play_B84 n (nI a + 1) (sp_X7_hunter B (nI a))))
        rw [if_neg i1, i2]
        exact ⟨P.2.2.2.1, Q.2.2.2.1⟩
/-- the frame, when the game is on: class from the loop that remembers, model's play -/
theorem P_play {N : Nat} {A B : Mem} {st : Int32} (hN : N ≤ 40000) (hR : Rl A B) (hG : GI N A) (hon : gI A 1 3 = 1) (h13 : gI A 1 13 = 0) (h15 : gI A 1 15 = 0) (es : gI A 0 3 = st) (hst : st = -1 ∨ inR 4 st) :
    GI (N + 1) (sp_X1_playFrame_B25 6 st 0 A) ∧ Rl (sp_X1_playFrame_B25 6 st 0 A) (sp_X7_play B) ∧ vc_X1_playFrame_B25 6 st 0 A ∧ vc_X7_play B ∧ Kq A (sp_X1_playFrame_B25 6 st 0 A) := by
  obtain ⟨t1, t2, t3, t4, t5, t6, B', t7, t8, t9⟩ := P_time hR hG
  rw [(e_loopX st A).1, t3, t8]
  unfold sp_X7_play_B41
  rw [(e_loopM B').1]
  have hG2 := reX_G t1
  have hR2 := P_reX t7
  have q1 := reX_eqc (M := sp_X1_passTime A) (n := 1) (by omega)
  have q0 := reX_eqc (M := sp_X1_passTime A) (n := 0) (by omega)
  have P := P_player hN hR2 hG2 ((q1.1 13).trans (t6.trans h13)) ((q0.1 3).trans (((t5.1 0 (by omega)).1 3).trans es)) hst
  have Q := P_huntL hN 6 1 _ _ (by decide) (by decide) (by decide) P.2.1 P.1 (P.2.2.2.2.2.2.1.trans ((q1.1 3).trans (t5.2.1.trans hon))) (P.2.2.2.2.2.2.2.trans ((q1.1 15).trans (t5.2.2.trans h15)))
  have eX : sp_X1_playFrame_n9 st (reX (sp_X1_passTime A)) = sp_X1_playFrame_B63 6 (nI 1) (moX (sp_X1_movePlayer (reX (sp_X1_passTime A)) st)) := by
    unfold sp_X1_playFrame_n9 sp_X1_playFrame_n8 moX sp_X1_playFrame_n7 sp_X1_playFrame_B61
    split <;> rfl
  have vX : vc_X1_playFrame_n9 st (reX (sp_X1_passTime A)) := by
    have c := P.2.2.2.1
    have w := Q.2.2.1
    unfold moV at c
    unfold moX at w
    unfold vc_X1_playFrame_n9 vc_X1_playFrame_n8 vc_X1_playFrame_n7 vc_X1_playFrame_B61
    refine ⟨P.2.2.1, ?_⟩
    split
    · rename_i z
      rw [if_pos z] at w
      exact w
    · rename_i z
      rw [if_neg z] at w c
      exact ⟨c, w⟩
  have vXX := (e_loopX st A).2 t4
  rw [t3] at vXX
  rw [eX]
  exact ⟨Q.1, Q.2.1, vXX vX, t9 ((e_loopM B').2 P.2.2.2.2.1 Q.2.2.2.1), fun n hn => ((t5.1 n hn).tr (reX_eqc (by omega))).tr ((P.2.2.2.2.2.1 n hn).tr (Q.2.2.2.2 n hn))⟩
