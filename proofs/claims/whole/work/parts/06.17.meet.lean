/-! Who meets whom; the next level; a frame of the game. -/
theorem v_meets (M : Mem) (h b : Nat) : vc_X0_meets M h b := by
  simp only [vc_X0_meets_B50, vc_X0_meets_B49, vc_X0_meets_B45, vc_X0_meets]
  repeat' split
  all_goals simp [v_isAt]
theorem met6 (p1 p2 p3 p4 p5 p6 : Prop) [Decidable p1] [Decidable p2] [Decidable p3] [Decidable p4] [Decidable p5] [Decidable p6] :
    (if p1 then (if p2 then (if p3 then (if p4 then (if p5 then (if p6 then (if (1 : Int32) = 0 then (if (1 : Int32) = 0 then (0 : Int32) else 1) else 1) else (if (1 : Int32) = 0 then (if (0 : Int32) = 0 then 0 else 1) else 1)) else (if (1 : Int32) = 0 then (if (0 : Int32) = 0 then 0 else 1) else 1)) else (if (1 : Int32) = 0 then (if (0 : Int32) = 0 then 0 else 1) else 1)) else (if (1 : Int32) = 0 then (if (0 : Int32) = 0 then 0 else 1) else 1)) else (if p3 then (if p4 then (if p5 then (if p6 then (if (0 : Int32) = 0 then (if (1 : Int32) = 0 then (0 : Int32) else 1) else 1) else (if (0 : Int32) = 0 then (if (0 : Int32) = 0 then 0 else 1) else 1)) else (if (0 : Int32) = 0 then (if (0 : Int32) = 0 then 0 else 1) else 1)) else (if (0 : Int32) = 0 then (if (0 : Int32) = 0 then 0 else 1) else 1)) else (if (0 : Int32) = 0 then (if (0 : Int32) = 0 then 0 else 1) else 1))) else (if p3 then (if p4 then (if p5 then (if p6 then (if (0 : Int32) = 0 then (if (1 : Int32) = 0 then (0 : Int32) else 1) else 1) else (if (0 : Int32) = 0 then (if (0 : Int32) = 0 then 0 else 1) else 1)) else (if (0 : Int32) = 0 then (if (0 : Int32) = 0 then 0 else 1) else 1)) else (if (0 : Int32) = 0 then (if (0 : Int32) = 0 then 0 else 1) else 1)) else (if (0 : Int32) = 0 then (if (0 : Int32) = 0 then 0 else 1) else 1))) = (if (if p1 ∧ p2 then (1 : Int32) else 0) = 0 then (if (if p3 ∧ p4 then (1 : Int32) else 0) = 0 then 0 else (if (if p5 ∧ p6 then (1 : Int32) else 0) = 0 then 0 else 1)) else 1) := by
  by_cases q1 : p1 <;> by_cases q2 : p2 <;> by_cases q3 : p3 <;> by_cases q4 : p4 <;> by_cases q5 : p5 <;> by_cases q6 : p6 <;> simp [q1, q2, q3, q4, q5, q6]
theorem P_met {A B : Mem} (hR : Rl A B) {a : Nat} (ha : a < 5) : sp_X7_met B (nI a) = sp_X0_meets A (5 + a) 5 ∧ vc_X7_met B (nI a) := by
  have ea : (nI a).toNatClampNeg = a := nI_cl (by omega)
  have rv := (ra_pos a ha).2
  obtain ⟨d0, d1, d2, d4, d6, d5, d7, d8, d3⟩ := dA ha
  have b0 : gI B 23 a = gI A (5 + a) 0 := hR.1 23 a d0
  have b1 : gI B 24 a = gI A (5 + a) 1 := hR.1 24 a d1
  have b7 : gI B 30 a = gI A (5 + a) 7 := hR.1 30 a d7
  have b8 : gI B 31 a = gI A (5 + a) 8 := hR.1 31 a d8
  have c0 : gI B 23 0 = gI A 5 0 := hR.1 23 0 rfl
  have c1 : gI B 24 0 = gI A 5 1 := hR.1 24 0 rfl
  have c7 : gI B 30 0 = gI A 5 7 := hR.1 30 0 rfl
  have c8 : gI B 31 0 = gI A 5 8 := hR.1 31 0 rfl
  constructor
  · unfold sp_X7_met sp_X7_met_B34 sp_X7_met_B35 sp_X7_met_B100 sp_X7_met_B101 sp_X7_met_B110 sp_X7_met_B115 sp_X0_meets sp_X0_meets_B45 sp_X0_meets_B49 sp_X0_meets_B50
    rw [e_isAt, e_isAt, e_isAt, ea, b0, b1, b7, b8, c0, c1, c7, c8]
    exact met6 _ _ _ _ _ _
  · simp only [vc_X7_met_B115, vc_X7_met_B110, vc_X7_met_B101, vc_X7_met_B100, vc_X7_met_B35, vc_X7_met_B34, vc_X7_met]
    repeat' split
    all_goals simp [rv]
theorem place_w (M : Mem) {h n : Nat} (k : Nat) (v c r d rest : Int32) (hn : n ≠ h) : sp_X0_place (wI M n k v) h c r d rest = wI (sp_X0_place M h c r d rest) n k v := by
  rw [e_place, e_place, wI_comm M v _ (show ¬ (n = h ∧ k = 0) by omega), wI_comm _ v _ (show ¬ (n = h ∧ k = 1) by omega), wI_comm _ v _ (show ¬ (n = h ∧ k = 2) by omega), ← wIF_comm, wI_comm _ v _ (show ¬ (n = h ∧ k = 4) by omega), wI_comm _ v _ (show ¬ (n = h ∧ k = 5) by omega), wI_comm _ v _ (show ¬ (n = h ∧ k = 6) by omega)]
theorem ch_n : ∀ j, j < 4 → ((sp_J9_min_7cf53 (nI j + 1) 3 = nI 1 ∨ sp_J9_min_7cf53 (nI j + 1) 3 = nI 2 ∨ sp_J9_min_7cf53 (nI j + 1) 3 = nI 3) ∧ sp_J9_min_7cf53 (nI j + 1) 3 = if 3 ≤ nI j then 3 else nI j + 1) := by decide +kernel
/-- a frightened hunter is eaten -/
theorem P_eatH {N : Nat} {A B : Mem} (hR : Rl A B) (hG : GI N A) {a : Nat} (h1 : 1 ≤ a) (ha : a < 5) :
    GI N (sp_X1_eatHunter A (5 + a)) ∧ vc_X1_eatHunter A (5 + a) ∧ Kp A (sp_X1_eatHunter A (5 + a)) ∧ ∃ B', Rl (sp_X1_eatHunter A (5 + a)) B' ∧ (∀ K, sp_X7_meet_n9 K (nI a) (sp_X7_points B (200 <<< ((gI B 20 11) &&& 31))) = sp_X7_meet_B123 K (nI a) B') ∧ ∀ KV, vc_X7_meet_B123 KV (nI a) B' → vc_X7_meet_n9 KV (nI a) (sp_X7_points B (200 <<< ((gI B 20 11) &&& 31))) := by
  obtain ⟨j, hj, ej⟩ := hG.2.2.2.2.2.2.2.1
  obtain ⟨m1, m2⟩ := ch_n j hj
  have b11 : gI B 20 11 = nI j := (hR.1 20 11 rfl).trans ej
  have e : sp_X1_eatHunter A (5 + a) = wI (sp_X0_place (wI (sp_X1_addPoints A (200 <<< (nI j &&& 31))) 1 8 (sp_J9_min_7cf53 (nI j + 1) 3)) (5 + a) 6 4 0 30) 1 14 1 := by
    have g : gI (wI A 1 14 1) 1 8 = nI j := by rw [gI_wI, if_neg (by decide)]; exact ej
    unfold sp_X1_eatHunter sp_X1_eatHunter_n4 sp_X1_eatHunter_n3 sp_X1_eatHunter_n2 sp_X1_eatHunter_n1
    rw [g, pt_keep _ _ 8 (by decide), g, pt_w _ _ 14 _ (by decide), wI_comm _ _ _ (show ¬ (1 = 1 ∧ 14 = 8) by decide), place_w _ _ _ _ _ _ _ (by omega)]
  have hG1 : GI N (wI (sp_X1_addPoints A (200 <<< (nI j &&& 31))) 1 8 (sp_J9_min_7cf53 (nI j + 1) 3)) := by
    have hg := G_points hG (200 <<< (nI j &&& 31))
    refine hg.gs (fun n hn => (eqc.rf _ n).wI hn) ?_
    obtain ⟨s1, s2, s3, s4, s5, s6⟩ := hg.2.2.2.2
    have g : ∀ i, i ≠ 8 → gI (wI (sp_X1_addPoints A (200 <<< (nI j &&& 31))) 1 8 (sp_J9_min_7cf53 (nI j + 1) 3)) 1 i = gI (sp_X1_addPoints A (200 <<< (nI j &&& 31))) 1 i := fun i hi => by rw [gI_wI, if_neg (by omega)]
    refine ⟨?_, ?_, ?_, ?_, ?_, ?_⟩
    · rw [g 3 (by decide)]; exact s1
    · rw [g 3 (by decide), g 6 (by decide), g 9 (by decide)]; exact s2
    · rw [g 7 (by decide)]; exact s3
    · rw [gI_wI, if_pos ⟨rfl, rfl⟩]
      rcases m1 with m | m | m
      · exact ⟨1, by decide, m⟩
      · exact ⟨2, by decide, m⟩
      · exact ⟨3, by decide, m⟩
    · rw [g 9 (by decide)]; exact s5
    · rw [g 10 (by decide)]; exact s6
  have hR1 : Rl (wI (sp_X1_addPoints A (200 <<< (nI j &&& 31))) 1 8 (sp_J9_min_7cf53 (nI j + 1) 3)) (wI (sp_X7_points B (200 <<< (nI j &&& 31))) 20 11 (sp_J9_min_7cf53 (nI j + 1) 3)) := (P_points hR _).wi (c := 20) (k := 11) rfl rfl rfl
  have hK1 : Kp A (wI (sp_X1_addPoints A (200 <<< (nI j &&& 31))) 1 8 (sp_J9_min_7cf53 (nI j + 1) 3)) := (pt_Kp A _).wI (by decide) (by decide)
  have bp : gI (sp_X7_points B (200 <<< (nI j &&& 31))) 20 11 = nI j := ((P_points hR (200 <<< (nI j &&& 31))).1 20 11 rfl).trans ((pt_keep _ _ 8 (by decide)).trans ej)
  have ep : ∀ n, n ≠ 5 + a → eqc (wI (sp_X1_addPoints A (200 <<< (nI j &&& 31))) 1 8 (sp_J9_min_7cf53 (nI j + 1) 3)) (sp_X0_place (wI (sp_X1_addPoints A (200 <<< (nI j &&& 31))) 1 8 (sp_J9_min_7cf53 (nI j + 1) 3)) (5 + a) 6 4 0 30) n := fun n hn => place_eqc _ _ _ _ _ _ n hn
  have hR2 := P_place hR1 ha 6 4 0 30
  have hv := (e_put (wI (sp_X7_points B (200 <<< (nI j &&& 31))) 20 11 (sp_J9_min_7cf53 (nI j + 1) 3)) a ha 6 4 0 30).2
  have hH : HUn (sp_X0_place (wI (sp_X1_addPoints A (200 <<< (nI j &&& 31))) 1 8 (sp_J9_min_7cf53 (nI j + 1) 3)) (5 + a) 6 4 0 30) (5 + a) := place_rest _ _ 6 30 (by decide) (by decide)
  rw [e, b11]
  refine ⟨(hG1.hun (by omega) (by omega) ep hH).w1 (by simp), ?_, (hK1.tr (Kp.one (h := 5 + a) (by omega) ep)).wI (by decide) (by decide), _, hR2.wi (c := 20) (k := 29) (v' := 1) rfl rfl rfl, fun K => ?_, fun KV h => ?_⟩
  · simp only [vc_X1_eatHunter_n2, vc_X1_eatHunter_n3, vc_X1_eatHunter_n4, vc_X1_eatHunter, vc_place]
  · unfold sp_X7_meet_n9
    rw [bp]
    have q : ∀ x, sp_X7_meet_B62 K (nI a) (sp_X7_points B (200 <<< (nI j &&& 31))) x = sp_X7_meet_B123 K (nI a) (wI (sp_X7_put (wI (sp_X7_points B (200 <<< (nI j &&& 31))) 20 11 x) (nI a) 6 4 0 30) 20 29 1) := fun x => rfl
    rw [q, q, m2]
    split <;> rfl
  · unfold vc_X7_meet_n9
    rw [bp]
    have q : ∀ x, x = sp_J9_min_7cf53 (nI j + 1) 3 → vc_X7_meet_B62 KV (nI a) (sp_X7_points B (200 <<< (nI j &&& 31))) x := fun x hx => by
      subst hx
      exact ⟨hv, h⟩
    split
    · rename_i z
      exact q _ (by rw [m2, if_pos z])
    · rename_i z
      exact q _ (by rw [m2, if_neg z])
theorem lv_n : ∀ k, 1 ≤ k ∧ k ≤ 4 → nI k - 1 = nI (k - 1) ∧ (nI (k - 1) = 0 ↔ k = 1) ∧ (nI (k - 1) ≤ 0 ↔ k = 1) := by
  intro k hk
  rcases (show k = 1 ∨ k = 2 ∨ k = 3 ∨ k = 4 by omega) with rfl | rfl | rfl | rfl <;> decide
/-- a life is lost -/
theorem P_lose {N : Nat} {A B : Mem} (hR : Rl A B) (hG : GI N A) (hon : gI A 1 3 = 1) :
    GI N (sp_X1_loseLife A) ∧ vc_X1_loseLife A ∧ Kq A (sp_X1_loseLife A) ∧ gI (sp_X1_loseLife A) 1 15 = 1 ∧ ∃ B', gI B' 20 30 = 1 ∧ Rl (sp_X1_loseLife A) (sp_X7_meet_B129 B') ∧ vc_X7_meet_B129 B' ∧ (∀ K x, sp_X7_meet_n5 K x (wI B 20 30 1) = sp_X7_meet_B123 K x B') ∧ ∀ KV x, vc_X7_meet_B123 KV x B' → vc_X7_meet_n5 KV x (wI B 20 30 1) := by
  obtain ⟨k, hk1, hk2, ek, hk3⟩ := hG.2.2.2.2.2.1 hon
  obtain ⟨l1, l2, l3⟩ := lv_n k ⟨hk1, hk2⟩
  have b7 : gI B 20 7 = nI k := (hR.1 20 7 rfl).trans ek
  have b3 : gI B 20 3 = 1 := (hR.1 20 3 rfl).trans hon
  have g6 : gI (wI A 1 15 1) 1 6 = nI k := by rw [gI_wI, if_neg (by decide)]; exact ek
  have m7 : gI (wI B 20 30 1) 20 7 = nI k := by rw [gI_wI, if_neg (by decide)]; exact b7
  have hR2 : Rl (wI (wI A 1 15 1) 1 6 (nI (k - 1))) (wI (wI B 20 30 1) 20 7 (nI (k - 1))) := (hR.wi (c := 20) (k := 30) rfl rfl rfl).wi (c := 20) (k := 7) rfl rfl rfl
  have e2 : ∀ n, n ≠ 1 → eqc A (wI (wI A 1 15 1) 1 6 (nI (k - 1))) n := fun n hn => ((eqc.rf A n).wI hn).wI hn
  have g : ∀ i, i ≠ 15 → i ≠ 6 → gI (wI (wI A 1 15 1) 1 6 (nI (k - 1))) 1 i = gI A 1 i := fun i h15 h6 => by
    rw [gI_wI, if_neg (by omega), gI_wI, if_neg (by omega)]
  have g6' : gI (wI (wI A 1 15 1) 1 6 (nI (k - 1))) 1 6 = nI (k - 1) := by rw [gI_wI, if_pos ⟨rfl, rfl⟩]
  have g15 : gI (wI (wI A 1 15 1) 1 6 (nI (k - 1))) 1 15 = 1 := by rw [gI_wI, if_neg (by decide), gI_wI, if_pos ⟨rfl, rfl⟩]
  have m7' : gI (wI (wI B 20 30 1) 20 7 (nI (k - 1))) 20 7 = nI (k - 1) := by rw [gI_wI, if_pos ⟨rfl, rfl⟩]
  have m30 : gI (wI (wI B 20 30 1) 20 7 (nI (k - 1))) 20 30 = 1 := by rw [gI_wI, if_neg (by decide), gI_wI, if_pos ⟨rfl, rfl⟩]
  have m3 : gI (wI (wI B 20 30 1) 20 7 (nI (k - 1))) 20 3 = 1 := by rw [gI_wI, if_neg (by decide), gI_wI, if_neg (by decide)]; exact b3
  unfold sp_X1_loseLife sp_X1_loseLife_n4 vc_X1_loseLife vc_X1_loseLife_n4 sp_X7_meet_n5 vc_X7_meet_n5
  rw [g6, m7, l1]
  obtain ⟨s1, s2, s3, s4, s5, s6⟩ := hG.2.2.2.2
  generalize wI (wI A 1 15 1) 1 6 (nI (k - 1)) = A2 at *
  generalize wI (wI B 20 30 1) 20 7 (nI (k - 1)) = B2 at *
  unfold sp_X1_loseLife_n3 vc_X1_loseLife_n3 sp_X7_meet_n4 vc_X7_meet_n4
  rw [g6', m7']
  by_cases z : k = 1
  · rw [if_pos (l2.mpr z), if_pos (l2.mpr z)]
    simp only [if_pos (l3.mpr z)]
    have hR3 : Rl (wI A2 1 3 0) (wI B2 20 3 0) := hR2.wi (c := 20) (k := 3) rfl rfl rfl
    have w30 : gI (wI B2 20 3 0) 20 30 = 1 := by rw [gI_wI, if_neg (by decide)]; exact m30
    have w3 : gI (wI B2 20 3 0) 20 3 = 0 := by rw [gI_wI, if_pos ⟨rfl, rfl⟩]
    refine ⟨hG.gs (fun n hn => (e2 n hn).wI hn) ?_, trivial, fun n hn => (e2 n (by omega)).wI (by omega), ?_, wI B2 20 3 0, w30, ?_, ?_, fun K x => rfl, fun KV x h => ⟨Or.inl rfl, h⟩⟩
    · have g' : ∀ i, i ≠ 3 → i ≠ 6 → i ≠ 15 → gI (wI A2 1 3 0) 1 i = gI A 1 i := fun i i3 i6 i15 => by rw [gI_wI, if_neg (by omega)]; exact g i i15 i6
      have g3 : gI (wI A2 1 3 0) 1 3 = 0 := by rw [gI_wI, if_pos ⟨rfl, rfl⟩]
      refine ⟨?_, ?_, ?_, ?_, ?_, ?_⟩
      · exact Or.inl g3
      · intro h
        exact absurd (g3.symm.trans h) (by decide)
      · show ∃ k, k ≤ N ∧ gI (wI A2 1 3 0) 1 7 = nI k
        rw [g' 7 (by decide) (by decide) (by decide)]; exact s3
      · show inR 4 (gI (wI A2 1 3 0) 1 8)
        rw [g' 8 (by decide) (by decide) (by decide)]; exact s4
      · show bo (gI (wI A2 1 3 0) 1 9)
        rw [g' 9 (by decide) (by decide) (by decide)]; exact s5
      · show inR 101 (gI (wI A2 1 3 0) 1 10)
        rw [g' 10 (by decide) (by decide) (by decide)]; exact s6
    · show gI (wI A2 1 3 0) 1 15 = 1
      rw [gI_wI, if_neg (by decide)]; exact g15
    · unfold sp_X7_meet_B129
      rw [w30, w3, if_neg (by decide), if_pos rfl]
      exact hR3
    · unfold vc_X7_meet_B129
      rw [w30, w3, if_neg (by decide), if_pos rfl]
      trivial
  · have z2 : ¬ nI (k - 1) = 0 := fun y => z (l2.mp y)
    have z3 : ¬ nI (k - 1) ≤ 0 := fun y => z (l3.mp y)
    rw [if_neg z2, if_neg z2]
    simp only [if_neg z3]
    have hp := P_placeActors hR2
    have hS : GS N A2 := by
      refine ⟨?_, fun _ => ⟨k - 1, by omega, by omega, g6', fun h => ?_⟩, ?_, ?_, ?_, ?_⟩
      · rw [g 3 (by decide) (by decide)]; exact s1
      · rw [g 9 (by decide) (by decide)] at h
        have := hk3 h
        omega
      · rw [g 7 (by decide) (by decide)]; exact s3
      · rw [g 8 (by decide) (by decide)]; exact s4
      · rw [g 9 (by decide) (by decide)]; exact s5
      · rw [g 10 (by decide) (by decide)]; exact s6
    have pe : ∀ n, n < 1 ∨ n = 2 ∨ n = 3 ∨ 10 ≤ n → eqc A2 (sp_X1_placeActors A2) n := fun n hn => by
      rw [e_placeActors]
      exact (((((((place_eqc _ _ _ _ _ _ n (by omega)).tr (place_eqc _ _ _ _ _ _ n (by omega))).tr (place_eqc _ _ _ _ _ _ n (by omega))).tr (place_eqc _ _ _ _ _ _ n (by omega))).tr (place_eqc _ _ _ _ _ _ n (by omega))).wI (by omega)).wI (by omega))
    have p15 : gI (sp_X1_placeActors A2) 1 15 = gI A2 1 15 := by
      rw [e_placeActors, gI_wI, if_neg (by decide), gI_wI, if_neg (by decide)]
      exact (((((place_eqc _ _ _ _ _ _ 1 (by omega)).tr (place_eqc _ _ _ _ _ _ 1 (by omega))).tr (place_eqc _ _ _ _ _ _ 1 (by omega))).tr (place_eqc _ _ _ _ _ _ 1 (by omega))).tr (place_eqc _ _ _ _ _ _ 1 (by omega))).1 15
    refine ⟨G_placeActors (hG.1.congr (e2 3 (by decide))) (hG.2.1.congr (e2 3 (by decide)) ((e2 2 (by decide)).1 1)) hS, hp.2.1, fun n hn => (e2 n (by omega)).tr (pe n (by omega)), p15.trans g15, B2, m30, ?_, ?_, fun K x => ?_, fun KV x h => ?_⟩
    · unfold sp_X7_meet_B129
      rw [m30, m3, if_neg (by decide), if_neg (by decide)]
      exact hp.1
    · unfold vc_X7_meet_B129
      rw [m30, m3, if_neg (by decide), if_neg (by decide)]
      exact hp.2.2
    · unfold sp_X7_meet_B120 sp_X7_meet_n3
      rw [wI_id m3]
    · unfold vc_X7_meet_B120 vc_X7_meet_n3
      rw [wI_id m3]
      exact ⟨Or.inr rfl, h⟩
