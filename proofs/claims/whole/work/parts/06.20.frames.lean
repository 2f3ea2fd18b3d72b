theorem GI.cg {N : Nat} {A A' : Mem} (hG : GI N A) (e : ∀ n, 1 ≤ n → n ≤ 9 → eqc A A' n) : GI N A' :=
  ⟨hG.1.congr (e 3 (by decide) (by decide)), hG.2.1.congr (e 3 (by decide) (by decide)) ((e 2 (by decide) (by decide)).1 1), hG.2.2.1.congr (e 5 (by decide) (by decide)), fun n a b => (hG.2.2.2.1 n a b).congr (e n (by omega) (by omega)), hG.2.2.2.2.congr (fun k _ => (e 1 (by decide) (by decide)).1 k)⟩
def fr6 (M : Mem) : Mem := if (gI M 0 4) = 120 then sp_X6_reset M else M
def fr6v (M : Mem) : Prop := if (gI M 0 4) = 120 then vc_X6_reset M else True
def fr5 (M : Mem) : Mem := fr6 (wI (wI M 0 5 (gI M 0 5 + 1)) 0 4 (gI (wI M 0 5 (gI M 0 5 + 1)) 0 4 + 1))
def fr5v (M : Mem) : Prop := fr6v (wI (wI M 0 5 (gI M 0 5 + 1)) 0 4 (gI (wI M 0 5 (gI M 0 5 + 1)) 0 4 + 1))
def frX (M : Mem) : Mem := fr5 (sp_X4_playFrame (sp_X1_playFrame M (gI M 0 3)))
def frV (M : Mem) : Prop := vc_X1_playFrame M (gI M 0 3) ∧ vc_X4_playFrame (sp_X1_playFrame M (gI M 0 3)) ∧ fr5v (sp_X4_playFrame (sp_X1_playFrame M (gI M 0 3)))
theorem fr_step (n : Nat) (a x : Int32) (M : Mem) : sp_X6_frames_B15 (n + 1) a x M = (if a ≤ x then (a, M) else sp_X6_frames_B15 n a (x + 1) (frX M)) ∧ ((a ≤ x ∨ (frV M ∧ vc_X6_frames_B15 n a (x + 1) (frX M))) → vc_X6_frames_B15 (n + 1) a x M) := by
  have e : ∀ M, sp_X6_frames_n3 (sp_X6_frames_B15 n) a x M = sp_X6_frames_B15 n a (x + 1) (fr6 M) := fun M => by
    unfold sp_X6_frames_n3 fr6
    split <;> rfl
  have v : ∀ M, fr6v M → vc_X6_frames_B15 n a (x + 1) (fr6 M) → vc_X6_frames_n3 (vc_X6_frames_B15 n) a x M := fun M h1 h2 => by
    unfold fr6v at h1
    unfold fr6 at h2
    unfold vc_X6_frames_n3
    split
    · rename_i z
      rw [if_pos z] at h1 h2
      exact ⟨h1, h2⟩
    · rename_i z
      rw [if_neg z] at h2
      exact h2
  constructor
  · show (if a ≤ x then (a, M) else sp_X6_frames_n3 (sp_X6_frames_B15 n) a x _) = _
    rw [e]
    rfl
  · intro h
    show if a ≤ x then True else ((vc_X1_playFrame M (gI M 0 3)) ∧ vc_X4_playFrame (sp_X1_playFrame M (gI M 0 3)) ∧ vc_X6_frames_n3 (vc_X6_frames_B15 n) a x _)
    split
    · trivial
    · rename_i z
      rcases h with h | h
      · exact absurd h z
      · exact ⟨h.1.1, h.1.2.1, v _ h.1.2.2 h.2⟩
theorem frM_step (n : Nat) (a x : Int32) (M : Mem) : sp_X7_frames_B15 (n + 1) a x M = (if a ≤ x then (a, M) else sp_X7_frames_B15 n a (x + 1) (sp_X7_frame M)) ∧ ((a ≤ x ∨ (vc_X7_frame M ∧ vc_X7_frames_B15 n a (x + 1) (sp_X7_frame M))) → vc_X7_frames_B15 (n + 1) a x M) := by
  constructor
  · rfl
  · intro h
    show if a ≤ x then True else (vc_X7_frame M ∧ vc_X7_frames_B15 n a (x + 1) (sp_X7_frame M))
    split
    · trivial
    · rename_i z
      rcases h with h | h
      · exact absurd h z
      · exact h
theorem BI.cg {F : Nat} {A A' : Mem} (h : BI F A) (e : ∀ n, n = 0 ∨ 10 ≤ n → eqc A A' n) : BI F A' := by
  obtain ⟨h1, h2, h3, h4⟩ := h
  have e0 := e 0 (by omega)
  refine ⟨?_, ?_, ?_, fun v hv => ?_⟩
  · rw [e0.1]; exact h1
  · rw [e0.1]; exact h2
  · rw [e0.1]; exact h3
  · rw [(e (12 + v) (by omega)).2]; exact h4 v hv
theorem P_frame {A B : Mem} {F : Nat} (hR : Rl A B) (hI : Inv F A) (hF : F < 30720) : Rl (frX A) (sp_X7_frame B) ∧ Inv (F + 1) (frX A) ∧ frV A ∧ vc_X7_frame B := by
  obtain ⟨hG, hB, -⟩ := hI
  have hR3 : Rl (wI (wI (wI A 1 13 0) 1 14 0) 1 15 0) (wI (wI (wI B 20 28 0) 20 29 0) 20 30 0) := ((hR.wi (c := 20) (k := 28) rfl rfl rfl).wi (c := 20) (k := 29) rfl rfl rfl).wi (c := 20) (k := 30) rfl rfl rfl
  have hG3 : GI (F + 1) (wI (wI (wI A 1 13 0) 1 14 0) 1 15 0) := ((hG.w1 (by simp)).w1 (by simp)).w1 (by simp)
  have e3 : ∀ n, n ≠ 1 → eqc A (wI (wI (wI A 1 13 0) 1 14 0) 1 15 0) n := fun n hn => (((eqc.rf A n).wI hn).wI hn).wI hn
  have g13 : gI (wI (wI (wI A 1 13 0) 1 14 0) 1 15 0) 1 13 = 0 := by simp [gI_wI]
  have g15 : gI (wI (wI (wI A 1 13 0) 1 14 0) 1 15 0) 1 15 = 0 := by simp [gI_wI]
  have st : gI (wI (wI (wI A 1 13 0) 1 14 0) 1 15 0) 0 3 = gI A 0 3 := (e3 0 (by decide)).1 3
  have eX : sp_X1_playFrame A (gI A 0 3) = sp_X1_playFrame_n12 (gI A 0 3) (wI (wI (wI A 1 13 0) 1 14 0) 1 15 0) := rfl
  have vX : vc_X1_playFrame A (gI A 0 3) = vc_X1_playFrame_n12 (gI A 0 3) (wI (wI (wI A 1 13 0) 1 14 0) 1 15 0) := rfl
  have eM : sp_X7_frame B = sp_X7_frame_n6 (wI (wI (wI B 20 28 0) 20 29 0) 20 30 0) := rfl
  have vM : vc_X7_frame B = vc_X7_frame_n6 (wI (wI (wI B 20 28 0) 20 29 0) 20 30 0) := rfl
  have hB3 : BI F (wI (wI (wI A 1 13 0) 1 14 0) 1 15 0) := hB.cg (fun n hn => e3 n (by omega))
  generalize wI (wI (wI A 1 13 0) 1 14 0) 1 15 0 = A3 at *
  generalize wI (wI (wI B 20 28 0) 20 29 0) 20 30 0 = B3 at *
  -- the game's frame
  have key : ∃ A4 B4, sp_X1_playFrame A (gI A 0 3) = A4 ∧ vc_X1_playFrame A (gI A 0 3) ∧ sp_X7_frame B = sp_X7_frame_B26 B4 ∧ (vc_X7_frame_B26 B4 → vc_X7_frame B) ∧ GI (F + 2) A4 ∧ Rl A4 B4 ∧ Kq A3 A4 := by
    have b3 : gI B3 20 3 = gI A3 1 3 := hR3.1 20 3 rfl
    rw [eX, vX, eM, vM]
    unfold sp_X1_playFrame_n12 vc_X1_playFrame_n12 sp_X7_frame_n6 vc_X7_frame_n6
    rw [b3]
    by_cases z : gI A3 1 3 = 0
    · simp only [if_pos z]
      exact ⟨A3, B3, rfl, trivial, rfl, fun h => h, hG3.up, hR3, fun n _ => eqc.rf A3 n⟩
    · simp only [if_neg z]
      have on : gI A3 1 3 = 1 := hG3.2.2.2.2.1.resolve_left z
      have P := P_play (N := F + 1) (by omega) hR3 hG3 on g13 g15 st hB.2.1
      exact ⟨_, _, rfl, P.2.2.1, rfl, fun h => ⟨P.2.2.2.1, h⟩, P.1, P.2.1, P.2.2.2.2⟩
  obtain ⟨A4, B4, k1, k2, k3, k4, k5, k6, k7⟩ := key
  have hB4 : BI F A4 := hB3.cg k7
  -- what is heard
  obtain ⟨h1, h2, h3, h4, h5⟩ := P_hear k6 hB4.2.2.2
  have hG5 : GI (F + 2) (sp_X4_playFrame A4) := k5.cg (fun n n1 n9 => h5 n (by omega))
  have hB5 : BI F (sp_X4_playFrame A4) := by
    obtain ⟨q1, q2, q3, -⟩ := hB4
    have e0 := h5 0 (by decide)
    exact ⟨by rw [e0.1]; exact q1, by rw [e0.1]; exact q2, by rw [e0.1]; exact q3, h4⟩
  unfold frX frV
  rw [k1, k3]
  unfold sp_X7_frame_B26
  have vM' : vc_X7_frame_n4 (sp_X7_hear B4) → vc_X7_frame B := fun h => k4 ⟨h3, h⟩
  generalize sp_X4_playFrame A4 = A5 at *
  generalize sp_X7_hear B4 = B5 at *
  -- the counters
  have b13 : gI B5 20 13 = gI A5 0 5 := h1.1 20 13 rfl
  have b12 : gI B5 20 12 = gI A5 0 4 := h1.1 20 12 rfl
  have x4 : gI (wI A5 0 5 (gI A5 0 5 + 1)) 0 4 = gI A5 0 4 := by rw [gI_wI, if_neg (by decide)]
  have y4 : gI (wI B5 20 13 (gI B5 20 13 + 1)) 20 12 = gI A5 0 4 := by rw [gI_wI, if_neg (by decide)]; exact b12
  have hR6 : Rl (wI (wI A5 0 5 (gI A5 0 5 + 1)) 0 4 (gI A5 0 4 + 1)) (wI (wI B5 20 13 (gI B5 20 13 + 1)) 20 12 (gI A5 0 4 + 1)) := (h1.wi (c := 20) (k := 13) rfl rfl (by rw [b13])).wi (c := 20) (k := 12) rfl rfl rfl
  have e6 : ∀ n, n ≠ 0 → eqc A5 (wI (wI A5 0 5 (gI A5 0 5 + 1)) 0 4 (gI A5 0 4 + 1)) n := fun n hn => ((eqc.rf A5 n).wI hn).wI hn
  have hG6 : GI (F + 1 + 1) (wI (wI A5 0 5 (gI A5 0 5 + 1)) 0 4 (gI A5 0 4 + 1)) := hG5.cg (fun n n1 n9 => e6 n (by omega))
  have hB6 : BI (F + 1) (wI (wI A5 0 5 (gI A5 0 5 + 1)) 0 4 (gI A5 0 4 + 1)) := by
    obtain ⟨q1, q2, q3, q4⟩ := hB5
    refine ⟨?_, ?_, ?_, fun v hv => ?_⟩
    · rw [gI_wI, if_neg (by decide), gI_wI, if_neg (by decide)]; exact q1
    · rw [gI_wI, if_neg (by decide), gI_wI, if_neg (by decide)]; exact q2
    · rw [gI_wI, if_neg (by decide), gI_wI, if_pos ⟨rfl, rfl⟩, q3]; exact (nI_succ F).symm
    · rw [(e6 (12 + v) (by omega)).2]; exact q4 v hv
  unfold fr5 fr5v
  rw [x4]
  unfold sp_X7_frame_n4 sp_X7_frame_n3
  unfold vc_X7_frame_n4 vc_X7_frame_n3 at vM'
  rw [y4] at vM' ⊢
  generalize wI (wI A5 0 5 (gI A5 0 5 + 1)) 0 4 (gI A5 0 4 + 1) = A6 at *
  generalize wI (wI B5 20 13 (gI B5 20 13 + 1)) 20 12 (gI A5 0 4 + 1) = B6 at *
  have b12' : gI B6 20 12 = gI A6 0 4 := hR6.1 20 12 rfl
  unfold fr6 fr6v sp_X7_frame_n2
  unfold vc_X7_frame_n2 at vM'
  rw [b12'] at vM' ⊢
  by_cases z : gI A6 0 4 = 120
  · simp only [if_pos z] at vM' ⊢
    obtain ⟨r1, r2, r3, r4⟩ := P_reset hR6 hB6 (by omega)
    exact ⟨r1, r2, ⟨k2, h2, r3⟩, vM' r4⟩
  · simp only [if_neg z] at vM' ⊢
    exact ⟨hR6, ⟨hG6, hB6, by omega⟩, ⟨k2, h2, trivial⟩, vM' trivial⟩
theorem asn {x : Int32} (n : Nat) (hn : n ≤ 1000) (h0 : ¬ x < 0) (h1 : x < nI n) : ∃ k, k < n ∧ x = nI k := by
  have a := (Int32.lt_iff_toInt_lt).mp h1
  rw [nI_toInt (by omega)] at a
  have b : ¬ x.toInt < 0 := fun z => h0 (Int32.lt_iff_toInt_lt.mpr z)
  refine ⟨x.toInt.toNat, by omega, ?_⟩
  apply Int32.toInt_inj.mp
  rw [nI_toInt (by omega)]
  omega
theorem P_framesL {a : Nat} (ha : a ≤ 60) : ∀ n i F (A B : Mem), i ≤ a → a < i + n → Rl A B → Inv F A → F + (a - i) ≤ 30720 → (sp_X6_frames_B15 n (nI a) (nI i) A).1 = (sp_X7_frames_B15 n (nI a) (nI i) B).1 ∧ Rl (sp_X6_frames_B15 n (nI a) (nI i) A).2 (sp_X7_frames_B15 n (nI a) (nI i) B).2 ∧ Inv (F + (a - i)) (sp_X6_frames_B15 n (nI a) (nI i) A).2 ∧ vc_X6_frames_B15 n (nI a) (nI i) A ∧ vc_X7_frames_B15 n (nI a) (nI i) B := by
  intro n
  induction n with
  | zero => intro i F A B h1 h2; omega
  | succ n ih =>
    intro i F A B h1 h2 hR hI hF
    rw [(fr_step n (nI a) (nI i) A).1, (frM_step n (nI a) (nI i) B).1]
    by_cases z : i = a
    · subst z
      have q : nI i ≤ nI i := Int32.le_refl _
      rw [if_pos q, if_pos q, Nat.sub_self]
      exact ⟨rfl, hR, hI, (fr_step n (nI i) (nI i) A).2 (Or.inl q), (frM_step n (nI i) (nI i) B).2 (Or.inl q)⟩
    · have q : ¬ nI a ≤ nI i := Int32.not_le.mpr (nI_lt (by omega) (by omega))
      have P := P_frame hR hI (by omega)
      have Q := ih (i + 1) (F + 1) _ _ (by omega) (by omega) P.1 P.2.1 (by omega)
      rw [show F + 1 + (a - (i + 1)) = F + (a - i) by omega] at Q
      rw [if_neg q, if_neg q, ← nI_succ]
      refine ⟨Q.1, Q.2.1, Q.2.2.1, (fr_step n (nI a) (nI i) A).2 (Or.inr ⟨P.2.2.1, ?_⟩), (frM_step n (nI a) (nI i) B).2 (Or.inr ⟨P.2.2.2, ?_⟩)⟩
      · rw [← nI_succ]; exact Q.2.2.2.1
      · rw [← nI_succ]; exact Q.2.2.2.2
theorem P_frames {A B : Mem} {F : Nat} (hR : Rl A B) (hI : Inv F A) (hF : F + 60 ≤ 30720) (x : Int32) : (sp_X6_frames A x).1 = (sp_X7_frames B x).1 ∧ Rl (sp_X6_frames A x).2 (sp_X7_frames B x).2 ∧ (∃ F', F' ≤ F + 60 ∧ Inv F' (sp_X6_frames A x).2) ∧ vc_X6_frames A x ∧ vc_X7_frames B x := by
  unfold sp_X6_frames sp_X7_frames vc_X6_frames vc_X7_frames
  by_cases z1 : x < 1
  · simp only [if_pos z1]
    exact ⟨rfl, hR, ⟨F, by omega, hI⟩, trivial, trivial⟩
  · simp only [if_neg z1]
    by_cases z2 : x ≤ 60
    · simp only [if_pos z2]
      obtain ⟨k, hk, rfl⟩ := asn (x := x) 61 (by decide) (fun z => z1 (Int32.lt_trans z (by decide))) (Int32.lt_of_le_of_lt z2 (by decide))
      have P := P_framesL (a := k) (by omega) 62 0 F A B (by omega) (by omega) hR hI (by omega)
      exact ⟨P.1, P.2.1, ⟨F + (k - 0), by omega, P.2.2.1⟩, P.2.2.2.1, P.2.2.2.2⟩
    · simp only [if_neg z2]
      exact ⟨rfl, hR, ⟨F, by omega, hI⟩, trivial, trivial⟩
theorem Inv.w0 {F : Nat} {A : Mem} {k : Nat} {v : Int32} (h : Inv F A) (hB : BI F (wI A 0 k v)) : Inv F (wI A 0 k v) := ⟨h.1.cg (fun n n1 n9 => (eqc.rf A n).wI (by omega)), hB, h.2.2⟩
theorem P_kick {A B : Mem} {F : Nat} (hR : Rl A B) (hI : Inv F A) : Rl (sp_X6_kick A) (sp_X7_kick B) ∧ Inv F (sp_X6_kick A) := by
  refine ⟨hR.wi (c := 20) (k := 12) rfl rfl rfl, hI.w0 ?_⟩
  obtain ⟨q1, q2, q3, q4⟩ := hI.2.1
  refine ⟨?_, ?_, ?_, q4⟩
  · rw [gI_wI, if_neg (by decide)]; exact q1
  · rw [gI_wI, if_neg (by decide)]; exact q2
  · rw [gI_wI, if_neg (by decide)]; exact q3
theorem P_stick {A B : Mem} {F : Nat} (hR : Rl A B) (hI : Inv F A) (x : Int32) : (sp_X6_stick A x).1 = (sp_X7_stick B x).1 ∧ Rl (sp_X6_stick A x).2 (sp_X7_stick B x).2 ∧ Inv F (sp_X6_stick A x).2 := by
  unfold sp_X6_stick sp_X7_stick
  by_cases z1 : x < -1
  · simp only [if_pos z1]
    exact ⟨rfl, hR, hI⟩
  · simp only [if_neg z1]
    have e : x < 4 ↔ x ≤ 3 := by
      rw [Int32.lt_iff_toInt_lt, Int32.le_iff_toInt_le, show (4 : Int32).toInt = 4 from rfl, show (3 : Int32).toInt = 3 from rfl]
      omega
    by_cases z2 : x < 4
    · simp only [if_pos z2, if_pos (e.mp z2)]
      refine ⟨rfl, hR.wi (c := 20) (k := 15) rfl rfl rfl, hI.w0 ?_⟩
      obtain ⟨q1, q2, q3, q4⟩ := hI.2.1
      refine ⟨?_, ?_, ?_, q4⟩
      · rw [gI_wI, if_neg (by decide)]; exact q1
      · rw [gI_wI, if_pos ⟨rfl, rfl⟩]
        by_cases z3 : x < 0
        · refine Or.inl (Int32.toInt_inj.mp ?_)
          rw [Int32.lt_iff_toInt_lt] at z1 z3
          rw [show (-1 : Int32).toInt = -1 from rfl] at *
          rw [show (0 : Int32).toInt = 0 from rfl] at *
          omega
        · exact Or.inr (asn 4 (by decide) z3 z2)
      · rw [gI_wI, if_neg (by decide)]; exact q3
    · simp only [if_neg z2, if_neg (fun h => z2 (e.mpr h))]
      exact ⟨rfl, hR, hI⟩
theorem co_n : ∀ k, k < 10 → (nI k < 9 ↔ ¬ nI k = 9) ∧ (nI k < 9 → k < 9 ∧ nI k + 1 = nI (k + 1)) := by decide +kernel
theorem P_coin {A B : Mem} {F : Nat} (hR : Rl A B) (hI : Inv F A) : (sp_X6_coin A).1 = (sp_X7_coin B).1 ∧ Rl (sp_X6_coin A).2 (sp_X7_coin B).2 ∧ Inv F (sp_X6_coin A).2 := by
  obtain ⟨⟨k, hk, ek⟩, q2, q3, q4⟩ := hI.2.1
  obtain ⟨c1, c2⟩ := co_n k hk
  have b2 : gI B 20 2 = nI k := (hR.1 20 2 rfl).trans ek
  unfold sp_X6_coin sp_X7_coin
  rw [ek, b2]
  by_cases z : nI k < 9
  · rw [if_pos z, if_neg (c1.mp z)]
    obtain ⟨c3, c4⟩ := c2 z
    refine ⟨rfl, hR.wi (c := 20) (k := 2) rfl rfl rfl, hI.w0 ⟨?_, ?_, ?_, q4⟩⟩
    · rw [gI_wI, if_pos ⟨rfl, rfl⟩]; exact ⟨k + 1, by omega, c4⟩
    · rw [gI_wI, if_neg (by decide)]; exact q2
    · rw [gI_wI, if_neg (by decide)]; exact q3
  · rw [if_neg z, if_pos (Classical.byContradiction fun y => z (c1.mpr y))]
    exact ⟨rfl, hR, hI⟩
