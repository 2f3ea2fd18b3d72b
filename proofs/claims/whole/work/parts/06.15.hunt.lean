theorem GI.hun1 {N : Nat} {A A' : Mem} {h : Nat} (hG : GI N A) (h6 : 6 ≤ h) (h9 : h ≤ 9) (e : ∀ n, n ≠ h → n ≠ 1 → eqc A A' n) (e1 : ∀ k, k ≠ 12 → gI A' 1 k = gI A 1 k) (hn : HUn A' h) : GI N A' := by
  obtain ⟨h1, h2, h3, h4, h5⟩ := hG
  refine ⟨h1.congr (e 3 (by omega) (by omega)), h2.congr (e 3 (by omega) (by omega)) ((e 2 (by omega) (by omega)).1 1), h3.congr (e 5 (by omega) (by omega)), fun n a b => ?_, h5.congr (fun k hk => e1 k (by omega))⟩
  by_cases q : n = h
  · subst q; exact hn
  · exact (h4 n a b).congr (e n q (by omega))
/-- the choice, for a hunter that is on its way in A0's game -/
theorem P_ch {N : Nat} {A0 A B : Mem} (hG : GI N A0) (hR : Rl A B) {a c r d : Nat} (h1 : 1 ≤ a) (ha : a < 5) (e : ∀ n, n ≠ 5 + a → eqc A0 A n) (hat : atC A (5 + a) c r d) (hp : pg (gF A (5 + a) 3)) (h4 : bo (gI A (5 + a) 4)) (h5 : bo (gI A (5 + a) 5)) (h6 : gI A (5 + a) 6 = 0) (hb : nxw c r (bk d) = true ∨ ∃ k, k < 4 ∧ k ≠ bk d ∧ opn A c r k (gI A (5 + a) 5) ≠ 0) :
    GI N (sp_X1_chooseDirection A (5 + a) (nI a)) ∧ Rl (sp_X1_chooseDirection A (5 + a) (nI a)) (sp_X7_choose B (nI a)) ∧ vc_X1_chooseDirection A (5 + a) (nI a) ∧ vc_X7_choose B (nI a) ∧ Kp A0 (sp_X1_chooseDirection A (5 + a) (nI a)) := by
  obtain ⟨hc, hr, hd, v0, v1, v2, hw⟩ := hat
  obtain ⟨⟨p, q, x, hp', hq, hx, p0, p1, p2, -⟩, -⟩ := hG.2.2.1
  have hC : CE A := hG.1.congr (e 3 (by omega))
  have e5 := e 5 (by omega)
  have hsix : ∃ c1 r1, c1 < 13 ∧ r1 < 9 ∧ gI A 6 0 = nI c1 ∧ gI A 6 1 = nI r1 := by
    by_cases z : a = 1
    · subst z
      exact ⟨c, r, hc, hr, v0, v1⟩
    · obtain ⟨⟨c1, r1, d1, ⟨hc1, hr1, -, u0, u1, -⟩, -⟩, -⟩ := hG.2.2.2.1 6 (by decide) (by decide)
      have e6 := e 6 (by omega)
      exact ⟨c1, r1, hc1, hr1, (e6.1 0).trans u0, (e6.1 1).trans u1⟩
  obtain ⟨c1, r1, hc1, hr1, u0, u1⟩ := hsix
  obtain ⟨d', hd', hnx, hR', vc1, vc2, ⟨k1, k2, k3, k4⟩, k5⟩ := P_choose hR hC h1 ha hc hr hd v0 v1 v2 hp' hq hx ((e5.1 0).trans p0) ((e5.1 1).trans p1) ((e5.1 2).trans p2) hc1 hr1 u0 u1 hb
  refine ⟨hG.hun1 (h := 5 + a) (by omega) (by omega) (fun n hn hn1 => (e n hn).tr (k1 n hn hn1)) (fun k hk => (k2 k hk).trans ((e 1 (by omega)).1 k)) ?_, hR', vc1, vc2, fun n hn => (e n (by omega)).tr (k1 n (by omega) (by omega)), (k2 3 (by decide)).trans ((e 1 (by omega)).1 3), (k2 15 (by decide)).trans ((e 1 (by omega)).1 15)⟩
  refine ⟨⟨c, r, d', ⟨hc, hr, hd', (k3 0 (by decide) (by decide) (by decide)).trans v0, (k3 1 (by decide) (by decide) (by decide)).trans v1, k5, hw⟩, fun _ => hnx, fun z => absurd ((k3 6 (by decide) (by decide) (by decide)).trans h6) z⟩, ?_, ?_, ?_, ?_⟩
  · rw [k4]; exact hp
  · rw [k3 4 (by decide) (by decide) (by decide)]; exact h4
  · rw [k3 5 (by decide) (by decide) (by decide)]; exact h5
  · rw [k3 6 (by decide) (by decide) (by decide), h6]; exact ⟨0, by decide, rfl⟩
theorem e_isAt (M : Mem) (h : Nat) (x y : Int32) : sp_X0_isAt M h x y = if gI M h 0 = x ∧ gI M h 1 = y then 1 else 0 := by
  simp only [sp_X0_isAt_B21, sp_X0_isAt_B20, sp_X0_isAt]
  by_cases h1 : gI M h 0 = x
  · by_cases h2 : gI M h 1 = y
    · rw [if_pos h1, if_pos h2, if_pos ⟨h1, h2⟩]
    · rw [if_pos h1, if_neg h2, if_neg (fun z => h2 z.2)]
  · rw [if_neg h1, if_neg (fun z => h1 z.1)]
theorem v_isAt (M : Mem) (h : Nat) (x y : Int32) : vc_X0_isAt M h x y := by
  simp only [vc_X0_isAt_B21, vc_X0_isAt_B20, vc_X0_isAt]
  repeat' split
  all_goals simp
theorem P_hend {N : Nat} {A0 A B : Mem} (hG : GI N A0) (hR : Rl A B) {a c r d : Nat} (h1 : 1 ≤ a) (ha : a < 5) (e : ∀ n, n ≠ 5 + a → eqc A0 A n) (hat : atC A (5 + a) c r d) (hp : pg (gF A (5 + a) 3)) (h4 : bo (gI A (5 + a) 4)) (h5 : bo (gI A (5 + a) 5)) (h6 : gI A (5 + a) 6 = 0) (hb : nxw c r (bk d) = true) :
    GI N (sp_X1_moveHunter_n3 (nI a) A) ∧ Rl (sp_X1_moveHunter_n3 (nI a) A) (sp_X7_hunter_n3 (nI a) B) ∧ vc_X1_moveHunter_n3 (nI a) A ∧ vc_X7_hunter_n3 (nI a) B ∧ Kp A0 (sp_X1_moveHunter_n3 (nI a) A) := by
  have ea : (nI a).toNatClampNeg = a := nI_cl (by omega)
  have rv := (ra_pos a ha).2
  obtain ⟨d0, d1, d2, d4, d6, d5, -, -, d3⟩ := dA ha
  have b0 : gI B 23 a = gI A (5 + a) 0 := hR.1 23 a d0
  have b1 : gI B 24 a = gI A (5 + a) 1 := hR.1 24 a d1
  unfold sp_X1_moveHunter_n3 vc_X1_moveHunter_n3 sp_X7_hunter_n3 vc_X7_hunter_n3
  rw [ea, e_isAt, b0, b1]
  have P1 := P_ch hG hR h1 ha e hat hp h4 h5 h6 (Or.inl hb)
  have x1 : sp_X1_moveHunter_B118 (nI a) A = sp_X1_chooseDirection A (5 + a) (nI a) := by
    unfold sp_X1_moveHunter_B118; rw [ea]; rfl
  have y1 : vc_X1_moveHunter_B118 (nI a) A = vc_X1_chooseDirection A (5 + a) (nI a) := by
    unfold vc_X1_moveHunter_B118; rw [ea]
  by_cases z0 : gI A (5 + a) 0 = 6
  · by_cases z1 : gI A (5 + a) 1 = 2
    · have n0 : ¬ (if gI A (5 + a) 0 = 6 ∧ gI A (5 + a) 1 = 2 then (1 : Int32) else 0) = 0 := by
        rw [if_pos ⟨z0, z1⟩]; decide
      rw [if_neg n0, if_neg n0, if_pos z0, if_pos z1, if_pos z0, if_pos z1]
      have g5 : ∀ k, k ≠ 5 → gI (wI A (5 + a) 5 0) (5 + a) k = gI A (5 + a) k := fun k hk => by rw [gI_wI, if_neg (fun z => hk z.2)]
      have P2 := P_ch (A := wI A (5 + a) 5 0) hG (hR.wi d5 rfl rfl) h1 ha (fun n hn => (e n hn).wI hn) (by
        obtain ⟨hc, hr, hd, v0, v1, v2, hw⟩ := hat
        exact ⟨hc, hr, hd, (g5 0 (by decide)).trans v0, (g5 1 (by decide)).trans v1, (g5 2 (by decide)).trans v2, hw⟩) hp (by rw [g5 4 (by decide)]; exact h4) (by rw [gI_wI, if_pos ⟨rfl, rfl⟩]; exact Or.inl rfl) ((g5 6 (by decide)).trans h6) (Or.inl hb)
      have x2 : sp_X1_moveHunter_n2 (nI a) (wI A (5 + a) 5 0) = sp_X1_chooseDirection (wI A (5 + a) 5 0) (5 + a) (nI a) := by
        unfold sp_X1_moveHunter_n2 sp_X1_moveHunter_B118; rw [ea]; rfl
      have y2 : vc_X1_moveHunter_n2 (nI a) (wI A (5 + a) 5 0) = vc_X1_chooseDirection (wI A (5 + a) 5 0) (5 + a) (nI a) := by
        unfold vc_X1_moveHunter_n2 vc_X1_moveHunter_B118; rw [ea]
      rw [x2, y2]
      exact ⟨P2.1, P2.2.1, ⟨v_isAt _ _ _ _, P2.2.2.1⟩, ⟨rv, rv, rv, P2.2.2.2.1⟩, P2.2.2.2.2⟩
    · have n0 : (if gI A (5 + a) 0 = 6 ∧ gI A (5 + a) 1 = 2 then (1 : Int32) else 0) = 0 := if_neg (fun z => z1 z.2)
      rw [if_pos n0, if_pos n0, if_pos z0, if_neg z1, if_pos z0, if_neg z1, x1, y1]
      exact ⟨P1.1, P1.2.1, ⟨v_isAt _ _ _ _, P1.2.2.1⟩, ⟨rv, rv, P1.2.2.2.1⟩, P1.2.2.2.2⟩
  · have n0 : (if gI A (5 + a) 0 = 6 ∧ gI A (5 + a) 1 = 2 then (1 : Int32) else 0) = 0 := if_neg (fun z => z0 z.1)
    rw [if_pos n0, if_pos n0, if_neg z0, if_neg z0, x1, y1]
    exact ⟨P1.1, P1.2.1, ⟨v_isAt _ _ _ _, P1.2.2.1⟩, ⟨rv, P1.2.2.2.1⟩, P1.2.2.2.2⟩
/-- the hunter goes on by the speed f -/
theorem P_go {N : Nat} {A B : Mem} {f : UInt32} (hG : GI N A) (hR : Rl A B) {a : Nat} (h1 : 1 ≤ a) (ha : a < 5) (h6 : gI A (5 + a) 6 = 0) (hf : pg f) :
    GI N (sp_X1_moveHunter_B75 A (nI a) f) ∧ Rl (sp_X1_moveHunter_B75 A (nI a) f) (sp_X7_hunter_B89 B (nI a) f) ∧ vc_X1_moveHunter_B75 A (nI a) f ∧ vc_X7_hunter_B89 B (nI a) f ∧ Kp A (sp_X1_moveHunter_B75 A (nI a) f) := by
  have ea : (nI a).toNatClampNeg = a := nI_cl (by omega)
  have rv := (ra_pos a ha).2
  obtain ⟨d0, d1, d2, d4, d6, d5, -, -, d3⟩ := dA ha
  obtain ⟨⟨c, r, d, ⟨hc, hr, hd, v0, v1, v2, hw⟩, hnx, -⟩, hp, h4, h5, hq⟩ := hG.2.2.2.1 (5 + a) (by omega) (by omega)
  have hnx := hnx h6
  have bp : gF B 26 a = gF A (5 + a) 3 := hR.2.1 26 a d3
  have pa := pg_add hp hf
  unfold sp_X1_moveHunter_B75 vc_X1_moveHunter_B75 sp_X7_hunter_B89 vc_X7_hunter_B89
  rw [ea, bp]
  generalize FP.fadd (gF A (5 + a) 3) f = p' at *
  have hR2 : Rl (wF A (5 + a) 3 p') (wF B 26 a p') := hR.wf d3 rfl rfl
  have e2 : ∀ n, n ≠ 5 + a → eqc A (wF A (5 + a) 3 p') n := fun n hn => (eqc.rf A n).wF hn
  have g2 : ∀ n k, gI (wF A (5 + a) 3 p') n k = gI A n k := fun n k => rfl
  have p2 : gF (wF A (5 + a) 3 p') (5 + a) 3 = p' := by rw [gF_wF, if_pos ⟨rfl, rfl⟩]
  generalize wF A (5 + a) 3 p' = A2 at *
  generalize wF B 26 a p' = B2 at *
  have bp2 : gF B2 26 a = p' := (hR2.2.1 26 a d3).trans p2
  unfold sp_X1_moveHunter_n5 vc_X1_moveHunter_n5 sp_X7_hunter_n5 vc_X7_hunter_n5
  rw [ea, p2, bp2]
  by_cases z : zz p' < 2 ^ 149
  · have z1 : ¬ 0 ≤ Op.cmpValue (FP.fcmp p' FP.fconst1) .g := fun y => (cm1_g pa.1).mp y z
    have z2 := (cm1_l pa.1).mpr z
    rw [if_neg z1, if_neg z1, if_pos z2, if_pos z2]
    have pl : pg p' := ⟨pa.1, pa.2.1, by omega⟩
    refine ⟨hG.hun (by omega) (by omega) e2 ⟨⟨c, r, d, ⟨hc, hr, hd, (g2 _ 0).trans v0, (g2 _ 1).trans v1, (g2 _ 2).trans v2, hw⟩, fun _ => hnx, fun y => absurd ((g2 _ 6).trans h6) y⟩, by rw [p2]; exact pl, by rw [g2]; exact h4, by rw [g2]; exact h5, by rw [g2]; exact hq⟩, hR2, ⟨nn_vf pa.1, trivial⟩, ⟨nn_vf pa.1, rv, rv, trivial⟩, Kp.one (h := 5 + a) (by omega) e2⟩
  · have z1 := (cm1_g pa.1).mpr z
    have z2 : ¬ Op.cmpValue (FP.fcmp p' FP.fconst1) .l < 0 := fun y => z ((cm1_l pa.1).mp y)
    rw [if_pos z1, if_pos z1, if_neg z2, if_neg z2]
    have pl := pg_less pa z
    obtain ⟨gb1, gb2, gb3⟩ := g_back hc hr hd hw hnx
    obtain ⟨er, -⟩ := nxw_in hc hr hd hnx
    have hn := (g_nc c hc d hd).2.2
    obtain ⟨pe1, pe2, pe3⟩ := P_enter hR2 ha hc hr hd ((g2 _ 0).trans v0) ((g2 _ 1).trans v1) ((g2 _ 2).trans v2)
    rw [er] at pe3
    have w3 : gF (sp_X0_enterNextCell A2 (5 + a)) (5 + a) 3 = p' := by rw [pe3]; exact p2
    have w3' : gF (sp_X7_step B2 (nI a)) 26 a = p' := (pe1.2.1 26 a d3).trans w3
    unfold sp_X1_moveHunter_n4 vc_X1_moveHunter_n4 sp_X7_hunter_n4 vc_X7_hunter_n4
    rw [ea, w3, w3']
    have hR4 : Rl (wF (sp_X0_enterNextCell A2 (5 + a)) (5 + a) 3 (FP.fsub p' FP.fconst1)) (wF (sp_X7_step B2 (nI a)) 26 a (FP.fsub p' FP.fconst1)) := pe1.wf d3 rfl rfl
    have e4 : ∀ n, n ≠ 5 + a → eqc A (wF (sp_X0_enterNextCell A2 (5 + a)) (5 + a) 3 (FP.fsub p' FP.fconst1)) n := fun n hn => by
      rw [pe3]; exact (((e2 n hn).wI hn).wI hn).wF hn
    have k : ∀ j, j ≠ 0 → j ≠ 1 → gI (wF (sp_X0_enterNextCell A2 (5 + a)) (5 + a) 3 (FP.fsub p' FP.fconst1)) (5 + a) j = gI A (5 + a) j := fun j j0 j1 => by
      rw [pe3, gI_wF, gI_wI, if_neg (fun y => j1 y.2), gI_wI, if_neg (fun y => j0 y.2)]; exact g2 _ _
    have PE := P_hend hG hR4 h1 ha e4 (c := nc c d) (r := nr r d) (d := d) ⟨hn, gb1, hd, by rw [pe3]; simp [gI_wI, gI_wF], by rw [pe3]; simp [gI_wI, gI_wF], (k 2 (by decide) (by decide)).trans v2, gb2⟩ (by rw [gF_wF, if_pos ⟨rfl, rfl⟩]; exact pl) (by rw [k 4 (by decide) (by decide)]; exact h4) (by rw [k 5 (by decide) (by decide)]; exact h5) ((k 6 (by decide) (by decide)).trans h6) gb3
    exact ⟨PE.1, PE.2.1, ⟨nn_vf pa.1, nn_vf pl.1, PE.2.2.1⟩, ⟨nn_vf pa.1, rv, rv, pe2, rv, nn_vf pl.1, rv, PE.2.2.2.1⟩, PE.2.2.2.2⟩
theorem rest_n : ∀ k, k < 121 → (nI k ≤ 0 ↔ k = 0) ∧ (1 ≤ k → nI k - 1 = nI (k - 1)) ∧ (nI k = 0 ↔ k = 0) := by decide +kernel
theorem nest_w : nxw 5 4 3 = true ∧ nxw 6 4 0 = true ∧ nxw 7 4 1 = true := by decide +kernel
theorem P_hunter {N : Nat} {A B : Mem} (hN : N ≤ 40000) (hR : Rl A B) (hG : GI N A) {a : Nat} (h1 : 1 ≤ a) (ha : a < 5) :
    GI N (sp_X1_moveHunter A (nI a)) ∧ Rl (sp_X1_moveHunter A (nI a)) (sp_X7_hunter B (nI a)) ∧ vc_X1_moveHunter A (nI a) ∧ vc_X7_hunter B (nI a) ∧ Kp A (sp_X1_moveHunter A (nI a)) := by
  have ea : (nI a).toNatClampNeg = a := nI_cl (by omega)
  have rv := (ra_pos a ha).2
  obtain ⟨d0, d1, d2, d4, d6, d5, -, -, d3⟩ := dA ha
  obtain ⟨⟨c, r, d, ⟨hc, hr, hd, v0, v1, v2, hw⟩, hnx, hrest⟩, hp, h4, h5, s, hs, es⟩ := hG.2.2.2.1 (5 + a) (by omega) (by omega)
  obtain ⟨s1, s2, s3⟩ := rest_n s hs
  have b6 : gI B 28 a = nI s := (hR.1 28 a d6).trans es
  have b4 : gI B 27 a = gI A (5 + a) 4 := hR.1 27 a d4
  unfold sp_X1_moveHunter vc_X1_moveHunter sp_X7_hunter vc_X7_hunter
  rw [ea, es, b6]
  by_cases z : s = 0
  · rw [if_pos (s1.mpr z), if_pos (s1.mpr z), if_pos (s1.mpr z), if_pos (s1.mpr z)]
    have h6 : gI A (5 + a) 6 = 0 := by rw [es, z]; rfl
    obtain ⟨k, hk, ek⟩ := hG.2.2.2.2.2.2.1
    have b8 : gI B 20 8 = nI k := (hR.1 20 8 rfl).trans ek
    obtain ⟨j, hj, mj, mm⟩ := min_lv (m := 5) (Nat.le_trans hk hN) (by decide)
    have mx : ∀ X : Int32 → Mem, (if gI B 20 8 ≤ 5 then X (gI B 20 8) else X 5) = X (nI j) := fun X => by
      rw [b8, ← mm]
      by_cases z : nI k ≤ nI 5
      · rw [if_pos z, if_pos (show nI k ≤ 5 from z)]
      · rw [if_neg z, if_neg (show ¬ nI k ≤ 5 from z)]; rfl
    have mv : ∀ X : Int32 → Prop, X (nI j) → (if gI B 20 8 ≤ 5 then X (gI B 20 8) else X 5) := fun X h => by
      rw [b8]
      rw [← mm] at h
      by_cases z : nI k ≤ nI 5
      · rw [if_pos z] at h
        rw [if_pos (show nI k ≤ 5 from z)]; exact h
      · rw [if_neg z] at h
        rw [if_neg (show ¬ nI k ≤ 5 from z)]; exact h
    obtain ⟨f1, f2, f3, f4, f5⟩ := sp_hunter j (by omega)
    obtain ⟨g1, g2, g3⟩ := sp_afraid j (by omega)
    rw [ek, show sp_J9_min_7cf53 (nI k) 5 = nI j from mj, mx (fun x => sp_X7_hunter_B50 B (nI a) x)]
    unfold sp_X7_hunter_B50 sp_X1_moveHunter_n6 vc_X1_moveHunter_n6 sp_X7_hunter_n6
    rw [ea, b4]
    by_cases af : gI A (5 + a) 4 = 0
    · rw [if_pos af, if_pos af, if_pos af]
      have P := P_go hG hR h1 ha h6 ⟨f3, f4, f5⟩
      refine ⟨P.1, P.2.1, ⟨rv, nn_vf f1, nn_vf f2, nn_vf f3, P.2.2.1⟩, ⟨rv, mv (fun x => vc_X7_hunter_B50 B (nI a) x) ?_⟩, P.2.2.2.2⟩
      unfold vc_X7_hunter_B50 vc_X7_hunter_n6
      rw [ea, b4, if_pos af]
      exact ⟨nn_vf f1, nn_vf f2, nn_vf f3, rv, rv, P.2.2.2.1⟩
    · rw [if_neg af, if_neg af, if_neg af]
      have P := P_go hG hR h1 ha h6 ⟨g1, g2, g3⟩
      refine ⟨P.1, P.2.1, ⟨rv, nn_vf f1, nn_vf f2, nn_vf f3, nn_vf g1, P.2.2.1⟩, ⟨rv, mv (fun x => vc_X7_hunter_B50 B (nI a) x) ?_⟩, P.2.2.2.2⟩
      unfold vc_X7_hunter_B50 vc_X7_hunter_n6
      rw [ea, b4, if_neg af]
      exact ⟨nn_vf f1, nn_vf f2, nn_vf f3, rv, rv, nn_vf g1, P.2.2.2.1⟩
  · have z' : ¬ nI s ≤ 0 := fun y => z (s1.mp y)
    rw [if_neg z', if_neg z', if_neg z', if_neg z', s2 (by omega)]
    obtain ⟨hl, rfl, rfl, hcc⟩ := hrest (by rw [es]; exact fun y => z (s3.mp y))
    have hR1 : Rl (wI A (5 + a) 6 (nI (s - 1))) (wI B 28 a (nI (s - 1))) := hR.wi d6 rfl rfl
    have e1 : ∀ n, n ≠ 5 + a → eqc A (wI A (5 + a) 6 (nI (s - 1))) n := fun n hn => (eqc.rf A n).wI hn
    have g1 : ∀ k, k ≠ 6 → gI (wI A (5 + a) 6 (nI (s - 1))) (5 + a) k = gI A (5 + a) k := fun k hk => by rw [gI_wI, if_neg (fun y => hk y.2)]
    have g6 : gI (wI A (5 + a) 6 (nI (s - 1))) (5 + a) 6 = nI (s - 1) := by rw [gI_wI, if_pos ⟨rfl, rfl⟩]
    have gp : gF (wI A (5 + a) 6 (nI (s - 1))) (5 + a) 3 = gF A (5 + a) 3 := rfl
    generalize wI A (5 + a) 6 (nI (s - 1)) = A1 at *
    generalize wI B 28 a (nI (s - 1)) = B1 at *
    have b61 : gI B1 28 a = nI (s - 1) := (hR1.1 28 a d6).trans g6
    unfold sp_X1_moveHunter_n8 vc_X1_moveHunter_n8 sp_X7_hunter_n8 vc_X7_hunter_n8
    rw [ea, g6, b61]
    have hat : atC A1 (5 + a) c 4 0 := ⟨hc, hr, hd, (g1 0 (by decide)).trans v0, (g1 1 (by decide)).trans v1, (g1 2 (by decide)).trans v2, hw⟩
    have l1 : gI A1 (5 + a) 5 = 1 := (g1 5 (by decide)).trans hl
    by_cases y : s - 1 = 0
    · have y0 : nI (s - 1) = 0 := by rw [y]; rfl
      rw [if_pos y0, if_pos y0, if_pos y0, if_pos y0]
      have hCE : CE A1 := hG.1.congr (e1 3 (by omega))
      have P := P_ch hG hR1 h1 ha e1 hat (by rw [gp]; exact hp) (by rw [g1 4 (by decide)]; exact h4) (Or.inr l1) (by rw [g6, y0]) (Or.inr (by
        rcases hcc with rfl | rfl | rfl
        · exact ⟨3, by decide, by decide, opn_of hCE (by decide) (by decide) (by decide) (by rw [l1]; decide) nest_w.1⟩
        · exact ⟨0, by decide, by decide, opn_of hCE (by decide) (by decide) (by decide) (by rw [l1]; decide) nest_w.2.1⟩
        · exact ⟨1, by decide, by decide, opn_of hCE (by decide) (by decide) (by decide) (by rw [l1]; decide) nest_w.2.2⟩))
      exact ⟨P.1, P.2.1, ⟨rv, P.2.2.1⟩, ⟨rv, rv, rv, rv, P.2.2.2.1⟩, P.2.2.2.2⟩
    · have y0 : ¬ nI (s - 1) = 0 := fun x => y (((rest_n (s - 1) (by omega)).2.2).mp x)
      rw [if_neg y0, if_neg y0, if_neg y0, if_neg y0]
      unfold sp_X1_moveHunter_B37 sp_X7_hunter_B33
      exact ⟨hG.hun (by omega) (by omega) e1 ⟨⟨c, 4, 0, hat, fun x => absurd (g6.symm.trans x) y0, fun _ => ⟨l1, rfl, rfl, hcc⟩⟩, by rw [gp]; exact hp, by rw [g1 4 (by decide)]; exact h4, Or.inr l1, ⟨s - 1, by omega, g6⟩⟩, hR1, ⟨rv, trivial⟩, ⟨rv, rv, rv, rv, trivial⟩, Kp.one (h := 5 + a) (by omega) e1⟩
