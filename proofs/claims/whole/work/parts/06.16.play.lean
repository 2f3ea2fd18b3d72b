/-! A frame of the game: time, what is remembered, who meets whom, the next level. -/
def Kq (A A' : Mem) : Prop := ∀ n, n = 0 ∨ 10 ≤ n → eqc A A' n
theorem GI.gs {N : Nat} {A A' : Mem} (hG : GI N A) (e : ∀ n, n ≠ 1 → eqc A A' n) (hs : GS N A') : GI N A' :=
  ⟨hG.1.congr (e 3 (by decide)), hG.2.1.congr (e 3 (by decide)) ((e 2 (by decide)).1 1), hG.2.2.1.congr (e 5 (by decide)), fun n a b => (hG.2.2.2.1 n a b).congr (e n (by omega)), hs⟩
theorem GI.up {N : Nat} {A : Mem} (h : GI N A) : GI (N + 1) A := by
  obtain ⟨h1, h2, h3, h4, s1, s2, ⟨k, hk, ek⟩, s4⟩ := h
  exact ⟨h1, h2, h3, h4, s1, s2, ⟨k, by omega, ek⟩, s4⟩
theorem GI.w78 {N : Nat} {A : Mem} {h k : Nat} {v : Int32} (hG : GI N A) (h5 : 5 ≤ h) (h9 : h ≤ 9) (hk : k = 7 ∨ k = 8) : GI N (wI A h k v) := by
  have g : ∀ j, j < 7 → gI (wI A h k v) h j = gI A h j := fun j hj => by rw [gI_wI, if_neg (by omega)]
  have e : ∀ n, n ≠ h → eqc A (wI A h k v) n := fun n hn => (eqc.rf A n).wI hn
  by_cases z : h = 5
  · subst z
    refine hG.ply e ?_
    obtain ⟨⟨c, r, d, hc, hr, hd, v0, v1, v2, hw⟩, hp, v4, v5, v6⟩ := hG.2.2.1
    exact ⟨⟨c, r, d, hc, hr, hd, (g 0 (by decide)).trans v0, (g 1 (by decide)).trans v1, (g 2 (by decide)).trans v2, hw⟩, hp, (g 4 (by decide)).trans v4, (g 5 (by decide)).trans v5, (g 6 (by decide)).trans v6⟩
  · refine hG.hun (by omega) h9 e ?_
    obtain ⟨⟨c, r, d, ⟨hc, hr, hd, v0, v1, v2, hw⟩, hn, hs⟩, hp, v4, v5, v6⟩ := hG.2.2.2.1 h (by omega) h9
    refine ⟨⟨c, r, d, ⟨hc, hr, hd, (g 0 (by decide)).trans v0, (g 1 (by decide)).trans v1, (g 2 (by decide)).trans v2, hw⟩, ?_, ?_⟩, hp, ?_, ?_, ?_⟩
    · rw [g 6 (by decide)]; exact hn
    · rw [g 6 (by decide), g 5 (by decide)]; exact hs
    · rw [g 4 (by decide)]; exact v4
    · rw [g 5 (by decide)]; exact v5
    · rw [g 6 (by decide)]; exact v6
/-! what is remembered -/
theorem e_rem (M : Mem) (h : Nat) : sp_X0_rememberCell M h = wI (wI M h 7 (gI M h 0)) h 8 (gI M h 1) := by
  simp only [sp_X0_rememberCell_n1, sp_X0_rememberCell_n2, sp_X0_rememberCell, gI_wI]
  simp
theorem rem_w (M : Mem) (h n k : Nat) (v : Int32) (hk : k ≠ 0 ∧ k ≠ 1 ∧ k ≠ 7 ∧ k ≠ 8) : sp_X0_rememberCell (wI M n k v) h = wI (sp_X0_rememberCell M h) n k v := by
  rw [e_rem, e_rem, gI_wI, if_neg (by omega), gI_wI, if_neg (by omega), wI_comm M v _ (show ¬ (n = h ∧ k = 7) by omega), wI_comm _ v _ (show ¬ (n = h ∧ k = 8) by omega)]
def reX (A : Mem) : Mem := sp_X0_rememberCell (sp_X0_rememberCell (sp_X0_rememberCell (sp_X0_rememberCell (sp_X0_rememberCell A 5) 6) 7) 8) 9
theorem reX_w (M : Mem) (n k : Nat) (v : Int32) (hk : k ≠ 0 ∧ k ≠ 1 ∧ k ≠ 7 ∧ k ≠ 8) : reX (wI M n k v) = wI (reX M) n k v := by
  unfold reX
  rw [rem_w _ _ _ _ _ hk, rem_w _ _ _ _ _ hk, rem_w _ _ _ _ _ hk, rem_w _ _ _ _ _ hk, rem_w _ _ _ _ _ hk]
theorem rem_g {M : Mem} {h n k : Nat} (hk : n ≠ h) : gI (sp_X0_rememberCell M h) n k = gI M n k := by
  rw [e_rem, gI_wI, if_neg (fun z => hk z.1), gI_wI, if_neg (fun z => hk z.1)]
theorem rem_eqc {M : Mem} {h n : Nat} (hk : n ≠ h) : eqc M (sp_X0_rememberCell M h) n := by
  rw [e_rem]; exact ((eqc.rf M n).wI hk).wI hk
theorem reX_eqc {M : Mem} {n : Nat} (h : n < 5 ∨ 9 < n) : eqc M (reX M) n :=
  ((((rem_eqc (h := 5) (by omega)).tr (rem_eqc (h := 6) (by omega))).tr (rem_eqc (h := 7) (by omega))).tr (rem_eqc (h := 8) (by omega))).tr (rem_eqc (h := 9) (by omega))
theorem reX_G {N : Nat} {M : Mem} (hG : GI N M) : GI N (reX M) := by
  have s : ∀ {M : Mem} {h : Nat}, 5 ≤ h → h ≤ 9 → GI N M → GI N (sp_X0_rememberCell M h) := fun h5 h9 hG => by
    rw [e_rem]; exact (hG.w78 h5 h9 (by omega)).w78 h5 h9 (by omega)
  exact s (by decide) (by decide) (s (by decide) (by decide) (s (by decide) (by decide) (s (by decide) (by decide) (s (by decide) (by decide) hG))))
def rmM (B : Mem) (a : Nat) : Mem := wI (wI B 30 a (gI B 23 a)) 31 a (gI (wI B 30 a (gI B 23 a)) 24 a)
def reM (B : Mem) : Mem := rmM (rmM (rmM (rmM (rmM B 0) 1) 2) 3) 4
theorem P_rem {A B : Mem} (hR : Rl A B) {a : Nat} (ha : a < 5) : Rl (sp_X0_rememberCell A (5 + a)) (rmM B a) := by
  obtain ⟨d0, d1, d2, d4, d6, d5, d7, d8, d3⟩ := dA ha
  rw [e_rem]
  refine (hR.wi d7 rfl ?_).wi d8 rfl ?_
  · exact (hR.1 23 a d0).symm
  · rw [gI_wI, if_neg (by omega)]; exact (hR.1 24 a d1).symm
theorem P_reX {A B : Mem} (hR : Rl A B) : Rl (reX A) (reM B) :=
  P_rem (a := 4) (P_rem (a := 3) (P_rem (a := 2) (P_rem (a := 1) (P_rem (a := 0) hR (by decide)) (by decide)) (by decide)) (by decide)) (by decide)
theorem e_loopX (st : Int32) (A : Mem) : sp_X1_playFrame_B25 6 st 0 A = sp_X1_playFrame_n9 st (sp_X1_passTime (reX A)) ∧ (vc_X1_passTime (reX A) → vc_X1_playFrame_n9 st (sp_X1_passTime (reX A)) → vc_X1_playFrame_B25 6 st 0 A) := by
  have s : ∀ n a M, a < 5 → sp_X1_playFrame_B25 (n + 1) st (nI a) M = sp_X1_playFrame_B25 n st (nI (a + 1)) (sp_X0_rememberCell M (5 + a)) ∧ (vc_X1_playFrame_B25 n st (nI (a + 1)) (sp_X0_rememberCell M (5 + a)) → vc_X1_playFrame_B25 (n + 1) st (nI a) M) := by
    intro n a M ha
    obtain ⟨i1, i2⟩ := i5 a ha
    have ea : (nI a).toNatClampNeg = a := nI_cl (by omega)
    have rv := (ra_pos a ha).2
    constructor
    · rw [show sp_X1_playFrame_B25 (n + 1) st (nI a) M = if 5 ≤ nI a then _ else (sp_X1_playFrame_n11 (sp_X1_playFrame_B25 n) st (nI a) (sp_X0_rememberCell M (5 + (nI a).toNatClampNeg))) from rfl, if_neg i1, ea]
      unfold sp_X1_playFrame_n11 sp_X1_playFrame_n10
      rw [i2]
    · intro h
      show if 5 ≤ nI a then _ else (vp_in (nI a) 5 ∧ (vc_X1_playFrame_n11 (vc_X1_playFrame_B25 n) st (nI a) (sp_X0_rememberCell M (5 + (nI a).toNatClampNeg))))
      rw [if_neg i1, ea]
      unfold vc_X1_playFrame_n11 vc_X1_playFrame_n10
      rw [i2]
      exact ⟨rv, h⟩
  constructor
  · rw [show sp_X1_playFrame_B25 6 st 0 A = sp_X1_playFrame_B25 6 st (nI 0) A from rfl, (s 5 0 A (by decide)).1, (s 4 1 _ (by decide)).1, (s 3 2 _ (by decide)).1, (s 2 3 _ (by decide)).1, (s 1 4 _ (by decide)).1]
    exact if_pos (by decide)
  · intro h1 h2
    refine (s 5 0 A (by decide)).2 ((s 4 1 _ (by decide)).2 ((s 3 2 _ (by decide)).2 ((s 2 3 _ (by decide)).2 ((s 1 4 _ (by decide)).2 ?_))))
    show if (5 : Int32) ≤ nI 5 then _ else _
    rw [if_pos (by decide)]
    exact ⟨h1, h2⟩
theorem e_loopM (B : Mem) : sp_X7_play_B43 6 0 B = sp_X7_play_n7 (sp_X7_player (reM B)) ∧ (vc_X7_player (reM B) → vc_X7_play_n7 (sp_X7_player (reM B)) → vc_X7_play_B43 6 0 B) := by
  have s : ∀ n a M, a < 5 → sp_X7_play_B43 (n + 1) (nI a) M = sp_X7_play_B43 n (nI (a + 1)) (rmM M a) ∧ (vc_X7_play_B43 n (nI (a + 1)) (rmM M a) → vc_X7_play_B43 (n + 1) (nI a) M) := by
    intro n a M ha
    obtain ⟨i1, i2⟩ := i5 a ha
    have ea : (nI a).toNatClampNeg = a := nI_cl (by omega)
    have rv := (ra_pos a ha).2
    constructor
    · rw [show sp_X7_play_B43 (n + 1) (nI a) M = if 5 ≤ nI a then _ else (sp_X7_play_n10 (sp_X7_play_B43 n) (nI a) (wI M 30 (nI a).toNatClampNeg (gI M 23 (nI a).toNatClampNeg))) from rfl, if_neg i1]
      unfold sp_X7_play_n10 sp_X7_play_n9 sp_X7_play_n8
      rw [i2, ea]
      rfl
    · intro h
      show if 5 ≤ nI a then _ else (vp_in (nI a) 5 ∧ (vp_in (nI a) 5 ∧ (vc_X7_play_n10 (vc_X7_play_B43 n) (nI a) (wI M 30 (nI a).toNatClampNeg (gI M 23 (nI a).toNatClampNeg)))))
      rw [if_neg i1]
      unfold vc_X7_play_n10 vc_X7_play_n9 vc_X7_play_n8
      rw [i2, ea]
      exact ⟨rv, rv, rv, rv, h⟩
  constructor
  · rw [show sp_X7_play_B43 6 0 B = sp_X7_play_B43 6 (nI 0) B from rfl, (s 5 0 B (by decide)).1, (s 4 1 _ (by decide)).1, (s 3 2 _ (by decide)).1, (s 2 3 _ (by decide)).1, (s 1 4 _ (by decide)).1]
    exact if_pos (by decide)
  · intro h1 h2
    refine (s 5 0 B (by decide)).2 ((s 4 1 _ (by decide)).2 ((s 3 2 _ (by decide)).2 ((s 2 3 _ (by decide)).2 ((s 1 4 _ (by decide)).2 ?_))))
    show if (5 : Int32) ≤ nI 5 then _ else _
    rw [if_pos (by decide)]
    exact ⟨h1, h2⟩
/-! time -/
def caX (A : Mem) : Mem := wI (wI (wI (wI A 6 4 0) 7 4 0) 8 4 0) 9 4 0
def caM (B : Mem) : Mem := wI (wI (wI (wI (wI B 27 0 0) 27 1 0) 27 2 0) 27 3 0) 27 4 0
theorem e_caX (A : Mem) : sp_X1_passTime_B37 6 1 A = caX A ∧ vc_X1_passTime_B37 6 1 A := by
  have s : ∀ n a M, a < 5 → sp_X1_passTime_B37 (n + 1) (nI a) M = sp_X1_passTime_B37 n (nI (a + 1)) (wI M (5 + a) 4 0) ∧ (vc_X1_passTime_B37 n (nI (a + 1)) (wI M (5 + a) 4 0) → vc_X1_passTime_B37 (n + 1) (nI a) M) := by
    intro n a M ha
    obtain ⟨i1, i2⟩ := i5 a ha
    have ea : (nI a).toNatClampNeg = a := nI_cl (by omega)
    have rv := (ra_pos a ha).2
    constructor
    · rw [show sp_X1_passTime_B37 (n + 1) (nI a) M = if 5 ≤ nI a then _ else (sp_X1_passTime_n2 (sp_X1_passTime_B37 n) (nI a) (wI M (5 + (nI a).toNatClampNeg) 4 0)) from rfl, if_neg i1, ea]
      unfold sp_X1_passTime_n2 sp_X1_passTime_n1
      rw [i2]
    · intro h
      show if 5 ≤ nI a then _ else (vp_in (nI a) 5 ∧ (vc_X1_passTime_n2 (vc_X1_passTime_B37 n) (nI a) (wI M (5 + (nI a).toNatClampNeg) 4 0)))
      rw [if_neg i1, ea]
      unfold vc_X1_passTime_n2 vc_X1_passTime_n1
      rw [i2]
      exact ⟨rv, h⟩
  constructor
  · rw [show sp_X1_passTime_B37 6 1 A = sp_X1_passTime_B37 6 (nI 1) A from rfl, (s 5 1 A (by decide)).1, (s 4 2 _ (by decide)).1, (s 3 3 _ (by decide)).1, (s 2 4 _ (by decide)).1]
    exact if_pos (by decide)
  · refine (s 5 1 A (by decide)).2 ((s 4 2 _ (by decide)).2 ((s 3 3 _ (by decide)).2 ((s 2 4 _ (by decide)).2 ?_)))
    show if (5 : Int32) ≤ nI 5 then _ else _
    rw [if_pos (by decide)]
    trivial
theorem e_caM (B : Mem) : sp_X7_calm B = caM B ∧ vc_X7_calm B := by
  have s : ∀ n a M, a < 5 → sp_X7_calm_B2 (n + 1) (nI a) M = sp_X7_calm_B2 n (nI (a + 1)) (wI M 27 a 0) ∧ (vc_X7_calm_B2 n (nI (a + 1)) (wI M 27 a 0) → vc_X7_calm_B2 (n + 1) (nI a) M) := by
    intro n a M ha
    obtain ⟨i1, i2⟩ := i5 a ha
    have ea : (nI a).toNatClampNeg = a := nI_cl (by omega)
    have rv := (ra_pos a ha).2
    constructor
    · rw [show sp_X7_calm_B2 (n + 1) (nI a) M = if 5 ≤ nI a then _ else (sp_X7_calm_n2 (sp_X7_calm_B2 n) (nI a) (wI M 27 (nI a).toNatClampNeg 0)) from rfl, if_neg i1, ea]
      unfold sp_X7_calm_n2 sp_X7_calm_n1
      rw [i2]
    · intro h
      show if 5 ≤ nI a then _ else (vp_in (nI a) 5 ∧ (vc_X7_calm_n2 (vc_X7_calm_B2 n) (nI a) (wI M 27 (nI a).toNatClampNeg 0)))
      rw [if_neg i1, ea]
      unfold vc_X7_calm_n2 vc_X7_calm_n1
      rw [i2]
      exact ⟨rv, h⟩
  unfold sp_X7_calm vc_X7_calm
  constructor
  · rw [show sp_X7_calm_B2 6 0 B = sp_X7_calm_B2 6 (nI 0) B from rfl, (s 5 0 B (by decide)).1, (s 4 1 _ (by decide)).1, (s 3 2 _ (by decide)).1, (s 2 3 _ (by decide)).1, (s 1 4 _ (by decide)).1]
    exact if_pos (by decide)
  · refine (s 5 0 B (by decide)).2 ((s 4 1 _ (by decide)).2 ((s 3 2 _ (by decide)).2 ((s 2 3 _ (by decide)).2 ((s 1 4 _ (by decide)).2 ?_))))
    show if (5 : Int32) ≤ nI 5 then _ else _
    rw [if_pos (by decide)]
    trivial
theorem GI.calm {N : Nat} {A : Mem} {h : Nat} (hG : GI N A) (h6 : 6 ≤ h) (h9 : h ≤ 9) : GI N (wI A h 4 0) := by
  have g : ∀ j, j ≠ 4 → gI (wI A h 4 0) h j = gI A h j := fun j hj => by rw [gI_wI, if_neg (by omega)]
  refine hG.hun h6 h9 (fun n hn => (eqc.rf A n).wI hn) ?_
  obtain ⟨⟨c, r, d, ⟨hc, hr, hd, v0, v1, v2, hw⟩, hn, hs⟩, hp, v4, v5, v6⟩ := hG.2.2.2.1 h h6 h9
  refine ⟨⟨c, r, d, ⟨hc, hr, hd, (g 0 (by decide)).trans v0, (g 1 (by decide)).trans v1, (g 2 (by decide)).trans v2, hw⟩, ?_, ?_⟩, hp, ?_, ?_, ?_⟩
  · rw [g 6 (by decide)]; exact hn
  · rw [g 6 (by decide), g 5 (by decide)]; exact hs
  · rw [gI_wI, if_pos ⟨rfl, rfl⟩]; exact Or.inl rfl
  · rw [g 5 (by decide)]; exact v5
  · rw [g 6 (by decide)]; exact v6
theorem fr_n : ∀ k, k < 101 → (nI k ≤ 0 ↔ k = 0) ∧ (1 ≤ k → nI k - 1 = nI (k - 1)) ∧ (nI k = 0 ↔ k = 0) := by decide +kernel
theorem P_time {N : Nat} {A B : Mem} (hR : Rl A B) (hG : GI N A) :
    GI N (sp_X1_passTime A) ∧ vc_X1_passTime A ∧ sp_X1_passTime (reX A) = reX (sp_X1_passTime A) ∧ vc_X1_passTime (reX A) ∧ Kp A (sp_X1_passTime A) ∧ gI (sp_X1_passTime A) 1 13 = gI A 1 13 ∧ ∃ B', Rl (sp_X1_passTime A) B' ∧ sp_X7_play B = sp_X7_play_B41 B' ∧ (vc_X7_play_B41 B' → vc_X7_play B) := by
  obtain ⟨k, hk, ek⟩ := hG.2.2.2.2.2.2.2.2.2
  obtain ⟨k1, k2, k3⟩ := fr_n k hk
  have b9 : gI B 20 9 = nI k := (hR.1 20 9 rfl).trans ek
  have b10 : gI B 20 10 = gI A 1 11 := hR.1 20 10 rfl
  have r10 : gI (reX A) 1 10 = nI k := ((reX_eqc (by omega)).1 10).trans ek
  have r11 : gI (reX A) 1 11 = gI A 1 11 := (reX_eqc (by omega)).1 11
  unfold sp_X1_passTime vc_X1_passTime sp_X7_play vc_X7_play
  rw [ek, r10, r11, b9, b10]
  by_cases z : k = 0
  · rw [if_pos (k3.mpr z), if_pos (k3.mpr z), if_pos (k3.mpr z), if_pos (k3.mpr z), if_pos (k1.mpr z), if_pos (k1.mpr z)]
    refine ⟨hG.w1 (by simp), trivial, ?_, trivial, (Kp.rf A).wI (by decide) (by decide), ?_, wI B 20 10 (gI A 1 11 + 1), hR.wi (c := 20) (k := 10) rfl rfl rfl, rfl, fun h => h⟩
    · exact (reX_w A 1 11 _ (by decide)).symm
    · show gI (wI A 1 11 _) 1 13 = _
      rw [gI_wI, if_neg (by decide)]
  · have z3 : ¬ nI k = 0 := fun y => z (k3.mp y)
    have z1 : ¬ nI k ≤ 0 := fun y => z (k1.mp y)
    rw [if_neg z3, if_neg z3, if_neg z3, if_neg z3, if_neg z1, if_neg z1, k2 (by omega)]
    have hG1 : GI N (wI A 1 10 (nI (k - 1))) := by
      refine hG.gs (fun n hn => (eqc.rf A n).wI hn) ?_
      obtain ⟨s1, s2, s3, s4, s5, s6⟩ := hG.2.2.2.2
      have g : ∀ j, j ≠ 10 → gI (wI A 1 10 (nI (k - 1))) 1 j = gI A 1 j := fun j hj => by rw [gI_wI, if_neg (by omega)]
      refine ⟨?_, ?_, ?_, ?_, ?_, ⟨k - 1, by omega, by rw [gI_wI, if_pos ⟨rfl, rfl⟩]⟩⟩
      · rw [g 3 (by decide)]; exact s1
      · rw [g 3 (by decide), g 6 (by decide), g 9 (by decide)]; exact s2
      · rw [g 7 (by decide)]; exact s3
      · rw [g 8 (by decide)]; exact s4
      · rw [g 9 (by decide)]; exact s5
    have hR1 : Rl (wI A 1 10 (nI (k - 1))) (wI B 20 9 (nI (k - 1))) := hR.wi (c := 20) (k := 9) rfl rfl rfl
    have hK1 : Kp A (wI A 1 10 (nI (k - 1))) := (Kp.rf A).wI (by decide) (by decide)
    have h13 : gI (wI A 1 10 (nI (k - 1))) 1 13 = gI A 1 13 := by rw [gI_wI, if_neg (by decide)]
    have h10 : gI (wI A 1 10 (nI (k - 1))) 1 10 = nI (k - 1) := by rw [gI_wI, if_pos ⟨rfl, rfl⟩]
    rw [← reX_w A 1 10 _ (by decide)]
    generalize wI A 1 10 (nI (k - 1)) = A1 at *
    generalize wI B 20 9 (nI (k - 1)) = B1 at *
    have b91 : gI B1 20 9 = nI (k - 1) := (hR1.1 20 9 rfl).trans h10
    have r101 : gI (reX A1) 1 10 = nI (k - 1) := ((reX_eqc (by omega)).1 10).trans h10
    unfold sp_X1_passTime_n4 vc_X1_passTime_n4 sp_X7_play_n13 vc_X7_play_n13
    rw [h10, r101, b91]
    by_cases y : nI (k - 1) = 0
    · rw [if_pos y, if_pos y, if_pos y, if_pos y, if_pos y, if_pos y, (e_caX A1).1, (e_caX (reX A1)).1, (e_caM B1).1]
      have p27 : gI B1 27 0 = 0 := (hR1.1 27 0 rfl).trans hG1.2.2.1.2.2.1
      refine ⟨(((hG1.calm (h := 6) (by decide) (by decide)).calm (h := 7) (by decide) (by decide)).calm (h := 8) (by decide) (by decide)).calm (h := 9) (by decide) (by decide), (e_caX A1).2, ?_, (e_caX (reX A1)).2, hK1.tr (((((Kp.rf A1).wI (by decide) (by decide)).wI (by decide) (by decide)).wI (by decide) (by decide)).wI (by decide) (by decide)), ?_, caM B1, ?_, rfl, fun h => ⟨(e_caM B1).2, h⟩⟩
      · unfold caX
        rw [reX_w _ _ _ _ (by decide), reX_w _ _ _ _ (by decide), reX_w _ _ _ _ (by decide), reX_w _ _ _ _ (by decide)]
      · unfold caX
        rw [gI_wI, if_neg (by decide), gI_wI, if_neg (by decide), gI_wI, if_neg (by decide), gI_wI, if_neg (by decide)]
        exact h13
      · unfold caM caX
        rw [wI_id p27]
        exact (((hR1.wi (c := 27) (k := 1) rfl rfl rfl).wi (c := 27) (k := 2) rfl rfl rfl).wi (c := 27) (k := 3) rfl rfl rfl).wi (c := 27) (k := 4) rfl rfl rfl
    · rw [if_neg y, if_neg y, if_neg y, if_neg y, if_neg y, if_neg y]
      exact ⟨hG1, trivial, rfl, trivial, hK1, h13, B1, hR1, rfl, fun h => h⟩
