theorem cm1_g {x : UInt32} (h : nn x) : 0 ≤ Op.cmpValue (FP.fcmp x FP.fconst1) .g ↔ ¬ zz x < 2 ^ 149 := by
  rw [fb_cmp h nn_one, zz_one]
  rcases Int.lt_trichotomy (zz x) (2 ^ 149) with q | q | q
  · rw [show compare (zz x) (2 ^ 149) = .lt from Int.compare_eq_lt.mpr q]
    exact ⟨fun z => absurd z (by decide), fun z => absurd q z⟩
  · rw [show compare (zz x) (2 ^ 149) = .eq from Int.compare_eq_eq.mpr q]
    exact ⟨fun _ => by omega, fun _ => by decide⟩
  · rw [show compare (zz x) (2 ^ 149) = .gt from Int.compare_eq_gt.mpr q]
    exact ⟨fun _ => by omega, fun _ => by decide⟩
theorem cm1_l {x : UInt32} (h : nn x) : Op.cmpValue (FP.fcmp x FP.fconst1) .l < 0 ↔ zz x < 2 ^ 149 := by
  rw [fb_cmp h nn_one, zz_one]
  rcases Int.lt_trichotomy (zz x) (2 ^ 149) with q | q | q
  · rw [show compare (zz x) (2 ^ 149) = .lt from Int.compare_eq_lt.mpr q]
    exact ⟨fun _ => q, fun _ => by decide⟩
  · rw [show compare (zz x) (2 ^ 149) = .eq from Int.compare_eq_eq.mpr q]
    exact ⟨fun z => absurd z (by decide), fun z => by omega⟩
  · rw [show compare (zz x) (2 ^ 149) = .gt from Int.compare_eq_gt.mpr q]
    exact ⟨fun z => absurd z (by decide), fun z => by omega⟩
theorem GI.ply {N : Nat} {A A' : Mem} (hG : GI N A) (e : ∀ n, n ≠ 5 → eqc A A' n) (hp : PLy A') : GI N A' := by
  obtain ⟨h1, h2, h3, h4, h5⟩ := hG
  exact ⟨h1.congr (e 3 (by omega)), h2.congr (e 3 (by omega)) ((e 2 (by omega)).1 1), hp, fun n a b => (h4 n a b).congr (e n (by omega)), h5.congr (fun k _ => (e 1 (by omega)).1 k)⟩
theorem i4 : ∀ k, k < 4 → ¬ nI k = -1 ∧ ¬ nI k < 0 := by decide +kernel
/-- the stick, for the player at (c, r) -/
theorem e_stk {A B : Mem} {c r : Nat} {st : Int32} (hR : Rl A B) (hCE : CE A) (hc : c < 13) (hr : r < 9) (v0 : gI A 5 0 = nI c) (v1 : gI A 5 1 = nI r) (v5 : gI A 5 5 = 0) (es : gI A 0 3 = st) (hst : st = -1 ∨ inR 4 st) :
    ∃ q : Int32, sp_X1_isStickOpen A st = q ∧ vc_X1_isStickOpen A st ∧ (∀ (x y : Mem), (if gI B 20 15 < 0 then x else if sp_X7_open B 0 (gI B 20 15) = 0 then x else y) = if q = 0 then x else y) ∧ (∀ X Y : Prop, (if q = 0 then X else Y) → (if gI B 20 15 < 0 then X else (vc_X7_open B 0 (gI B 20 15) ∧ if sp_X7_open B 0 (gI B 20 15) = 0 then X else Y))) ∧ (q ≠ 0 → ∃ k, k < 4 ∧ st = nI k) := by
  have s15 : gI B 20 15 = st := (hR.1 20 15 rfl).trans es
  rw [s15]
  rcases hst with rfl | ⟨k, hk, rfl⟩
  · refine ⟨0, rfl, ?_, fun x y => ?_, fun X Y h => ?_, fun z => absurd rfl z⟩
    · exact Or.inl rfl
    · rw [if_pos (by decide), if_pos rfl]
    · rw [if_pos rfl] at h
      rw [if_pos (by decide)]
      exact h
  · obtain ⟨k1, k2⟩ := i4 k hk
    have io := e_isOpen (h := 5) hc hr hk v0 v1 hCE.ne
    have im := e_open (a := 0) hR (by decide) hc hr hk v0 v1 (fun _ => v5)
    refine ⟨if opn A c r k (gI A 5 5) = 0 then 0 else 1, ?_, ?_, fun x y => ?_, fun X Y h => ?_, fun _ => ⟨k, hk, rfl⟩⟩
    · simp only [sp_X1_isStickOpen_B25, sp_X1_isStickOpen_B24, sp_X1_isStickOpen, if_neg k1, io.1]
    · simp only [vc_X1_isStickOpen_B25, vc_X1_isStickOpen_B24, vc_X1_isStickOpen, if_neg k1, io.1]
      refine ⟨io.2, ?_⟩
      split
      · simp
      · simp
    · rw [if_neg k2, show sp_X7_open B 0 (nI k) = _ from im.1]
      by_cases o : opn A c r k (gI A 5 5) = 0
      · rw [if_pos o, if_pos o, if_pos rfl]
      · rw [if_neg o, if_neg o, if_neg (by decide)]
    · rw [if_neg k2, show sp_X7_open B 0 (nI k) = _ from im.1]
      refine ⟨im.2, ?_⟩
      by_cases o : opn A c r k (gI A 5 5) = 0
      · rw [if_pos o, if_pos rfl] at h
        rw [if_pos o]; exact h
      · rw [if_neg o, if_neg (by decide)] at h
        rw [if_neg o]; exact h
/-- the player's frame, with what it eats -/
def plX (A : Mem) (st : Int32) : Mem := if (sp_X1_movePlayer A st).1 = 0 then (sp_X1_movePlayer A st).2 else sp_X1_eatHere (sp_X1_movePlayer A st).2
def moX (q : Int32 × Mem) : Mem := if q.1 = 0 then q.2 else sp_X1_eatHere q.2
def moV (q : Int32 × Mem) : Prop := if q.1 = 0 then True else vc_X1_eatHere q.2
/-- entered: the end of the player's walk -/
theorem P_entered {N : Nat} {A B : Mem} {st : Int32} (hN : N ≤ 40000) (hR : Rl A B) (hG : GI N A) (h13 : gI A 1 13 = 0) (es : gI A 0 3 = st) (hst : st = -1 ∨ inR 4 st) :
    GI N (moX (sp_X1_movePlayer_n3 st A)) ∧ Rl (moX (sp_X1_movePlayer_n3 st A)) (sp_X7_player_n8 B) ∧ vc_X1_movePlayer_n3 st A ∧ moV (sp_X1_movePlayer_n3 st A) ∧ vc_X7_player_n8 B ∧ Kp A (moX (sp_X1_movePlayer_n3 st A)) := by
  obtain ⟨⟨c, r, d, hc, hr, hd, v0, v1, v2, hw⟩, hp, v4, v5, v6⟩ := hG.2.2.1
  have io := e_isOpen (h := 5) hc hr hd v0 v1 hG.1.ne
  have im := e_open (a := 0) hR (by decide) hc hr hd v0 v1 (fun _ => v5)
  have b2 : gI B 25 0 = nI d := (hR.1 25 0 rfl).trans v2
  obtain ⟨q, q1, q2, q3, q4, -⟩ := e_stk hR hG.1 hc hr v0 v1 v5 es hst
  -- standing still, or not
  have e0 : ∀ n, n ≠ 5 → eqc A (wF A 5 3 FP.fconst0) n := fun n hn => (eqc.rf A n).wF hn
  have hG0 : GI N (wF A 5 3 FP.fconst0) := hG.ply e0 ⟨⟨c, r, d, hc, hr, hd, v0, v1, v2, hw⟩, by rw [gF_wF, if_pos ⟨rfl, rfl⟩]; exact pg_zero, v4, v5, v6⟩
  have hR0 : Rl (wF A 5 3 FP.fconst0) (wF B 26 0 FP.fconst0) := hR.wf (c := 26) (k := 0) rfl rfl rfl
  have P0 := P_eat hN hR0 hG0 h13
  have P1 := P_eat hN hR hG h13
  have hK0 : Kp A (wF A 5 3 FP.fconst0) := (Kp.rf A).wF (by decide)
  unfold sp_X1_movePlayer_n3 vc_X1_movePlayer_n3 sp_X7_player_n8 vc_X7_player_n8
  rw [v2, b2, io.1, q1, q3, show sp_X7_open B 0 (nI d) = _ from im.1]
  by_cases o : opn A c r d (gI A 5 5) = 0
  · rw [if_pos o, if_pos o, if_pos o, if_pos o]
    exact ⟨P0.1, P0.2.1, ⟨io.2, trivial⟩, P0.2.2.1, ⟨im.2, P0.2.2.2.1⟩, hK0.tr P0.2.2.2.2⟩
  · rw [if_neg o, if_neg o, if_neg o, if_neg o]
    by_cases z : q = 0
    · rw [if_pos z, if_pos z]
      refine ⟨P1.1, P1.2.1, ⟨io.2, q2⟩, P1.2.2.1, ⟨im.2, q4 _ _ ?_⟩, P1.2.2.2.2⟩
      rw [if_pos z]
      exact P1.2.2.2.1
    · rw [if_neg z, if_neg z]
      refine ⟨P0.1, P0.2.1, ⟨io.2, q2⟩, P0.2.2.1, ⟨im.2, q4 _ _ ?_⟩, hK0.tr P0.2.2.2.2⟩
      rw [if_neg z]
      exact P0.2.2.2.1
theorem min_lv {k m : Nat} (hk : k ≤ 40000) (hm : m ≤ 10) : ∃ j : Nat, j ≤ m ∧ sp_J9_min_7cf53 (nI k) (nI m) = nI j ∧ (if nI k ≤ nI m then nI k else nI m) = nI j := by
  simp only [sp_J9_min_7cf53_B10, sp_J9_min_7cf53]
  by_cases h : k ≤ m
  · have h1 : nI k ≤ nI m := nI_le h (by omega)
    exact ⟨k, h, by rw [if_neg (Int32.not_lt.mpr h1)], by rw [if_pos h1]⟩
  · have h1 : nI m < nI k := nI_lt (by omega) (by omega)
    exact ⟨m, Nat.le_refl m, by rw [if_pos h1], by rw [if_neg (Int32.not_le.mpr h1)]⟩
theorem P_walk {N : Nat} {A B : Mem} {st : Int32} (hN : N ≤ 40000) (hR : Rl A B) (hG : GI N A) (h13 : gI A 1 13 = 0) (es : gI A 0 3 = st) (hst : st = -1 ∨ inR 4 st) :
    GI N (moX (sp_X1_movePlayer_B28 st A)) ∧ Rl (moX (sp_X1_movePlayer_B28 st A)) (sp_X7_player_B40 B) ∧ vc_X1_movePlayer_B28 st A ∧ moV (sp_X1_movePlayer_B28 st A) ∧ vc_X7_player_B40 B ∧ Kp A (moX (sp_X1_movePlayer_B28 st A)) := by
  obtain ⟨⟨c, r, d, hc, hr, hd, v0, v1, v2, hw⟩, hp, v4, v5, v6⟩ := hG.2.2.1
  have io := e_isOpen (h := 5) hc hr hd v0 v1 hG.1.ne
  have im := e_open (a := 0) hR (by decide) hc hr hd v0 v1 (fun _ => v5)
  have b2 : gI B 25 0 = nI d := (hR.1 25 0 rfl).trans v2
  have bp : gF B 26 0 = gF A 5 3 := hR.2.1 26 0 rfl
  obtain ⟨k, hk, ek⟩ := hG.2.2.2.2.2.2.1
  have b8 : gI B 20 8 = nI k := (hR.1 20 8 rfl).trans ek
  obtain ⟨j, hj, mj, mm⟩ := min_lv (m := 4) (Nat.le_trans hk hN) (by decide)
  obtain ⟨f1, f2, f3, f4, f5⟩ := sp_player j (by omega)
  have f6 : pg (FP.fmul 1045220557 (FP.fadd FP.fconst1 (FP.fmul 1028443341 (FP.i2f (nI j))))) := ⟨f3, f4, f5⟩
  have mx : ∀ X : Int32 → Mem, (if gI B 20 8 ≤ 4 then X (gI B 20 8) else X 4) = X (nI j) := fun X => by
    rw [b8, ← mm]
    by_cases z : nI k ≤ nI 4
    · rw [if_pos z, if_pos (show nI k ≤ 4 from z)]
    · rw [if_neg z, if_neg (show ¬ nI k ≤ 4 from z)]; rfl
  have mv : ∀ X : Int32 → Prop, X (nI j) → (if gI B 20 8 ≤ 4 then X (gI B 20 8) else X 4) := fun X h => by
    rw [b8]
    rw [← mm] at h
    by_cases z : nI k ≤ nI 4
    · rw [if_pos z] at h
      rw [if_pos (show nI k ≤ 4 from z)]; exact h
    · rw [if_neg z] at h
      rw [if_neg (show ¬ nI k ≤ 4 from z)]; exact h
  unfold sp_X1_movePlayer_B28 vc_X1_movePlayer_B28 sp_X7_player_B40 vc_X7_player_B40
  rw [v2, b2, io.1, mx (fun x => sp_X7_player_B78 B x), ek, show sp_J9_min_7cf53 (nI k) 4 = nI j from mj, show sp_X7_open B 0 (nI d) = _ from im.1]
  by_cases o : opn A c r d (gI A 5 5) = 0
  · rw [if_pos o, if_pos o, if_pos o, if_pos o]
    have e0 : ∀ n, n ≠ 5 → eqc A (wF A 5 3 FP.fconst0) n := fun n hn => (eqc.rf A n).wF hn
    rw [show moX (sp_X1_movePlayer_n2 (wF A 5 3 FP.fconst0)) = wF A 5 3 FP.fconst0 from if_pos rfl]
    exact ⟨hG.ply e0 ⟨⟨c, r, d, hc, hr, hd, v0, v1, v2, hw⟩, by rw [gF_wF, if_pos ⟨rfl, rfl⟩]; exact pg_zero, v4, v5, v6⟩, hR.wf (c := 26) (k := 0) rfl rfl rfl, ⟨io.2, trivial⟩, trivial, ⟨im.2, trivial⟩, (Kp.rf A).wF (by decide)⟩
  · rw [if_neg o, if_neg o, if_neg o, if_neg o]
    have hnx := opn_nxw hG.1 hc hr hd o
    obtain ⟨gb1, gb2, -⟩ := g_back hc hr hd hw hnx
    obtain ⟨er, -⟩ := nxw_in hc hr hd hnx
    have hn := (g_nc c hc d hd).2.2
    have pa := pg_add hp f6
    -- the step is added
    have hR2 : Rl (wF A 5 3 (FP.fadd (gF A 5 3) (FP.fmul 1045220557 (FP.fadd FP.fconst1 (FP.fmul 1028443341 (FP.i2f (nI j))))))) (wF B 26 0 (FP.fadd (gF B 26 0) (FP.fmul 1045220557 (FP.fadd FP.fconst1 (FP.fmul 1028443341 (FP.i2f (nI j))))))) := hR.wf (c := 26) (k := 0) rfl rfl (by rw [bp])
    have key : GI N (moX (sp_X1_movePlayer_n5 st (wF A 5 3 (FP.fadd (gF A 5 3) (FP.fmul 1045220557 (FP.fadd FP.fconst1 (FP.fmul 1028443341 (FP.i2f (nI j))))))))) ∧ Rl (moX (sp_X1_movePlayer_n5 st (wF A 5 3 (FP.fadd (gF A 5 3) (FP.fmul 1045220557 (FP.fadd FP.fconst1 (FP.fmul 1028443341 (FP.i2f (nI j))))))))) (sp_X7_player_n10 (wF B 26 0 (FP.fadd (gF B 26 0) (FP.fmul 1045220557 (FP.fadd FP.fconst1 (FP.fmul 1028443341 (FP.i2f (nI j)))))))) ∧ vc_X1_movePlayer_n5 st (wF A 5 3 (FP.fadd (gF A 5 3) (FP.fmul 1045220557 (FP.fadd FP.fconst1 (FP.fmul 1028443341 (FP.i2f (nI j))))))) ∧ moV (sp_X1_movePlayer_n5 st (wF A 5 3 (FP.fadd (gF A 5 3) (FP.fmul 1045220557 (FP.fadd FP.fconst1 (FP.fmul 1028443341 (FP.i2f (nI j)))))))) ∧ vc_X7_player_n10 (wF B 26 0 (FP.fadd (gF B 26 0) (FP.fmul 1045220557 (FP.fadd FP.fconst1 (FP.fmul 1028443341 (FP.i2f (nI j))))))) ∧ Kp A (moX (sp_X1_movePlayer_n5 st (wF A 5 3 (FP.fadd (gF A 5 3) (FP.fmul 1045220557 (FP.fadd FP.fconst1 (FP.fmul 1028443341 (FP.i2f (nI j))))))))) := by
      have p2 : gF (wF A 5 3 (FP.fadd (gF A 5 3) (FP.fmul 1045220557 (FP.fadd FP.fconst1 (FP.fmul 1028443341 (FP.i2f (nI j))))))) 5 3 = FP.fadd (gF A 5 3) (FP.fmul 1045220557 (FP.fadd FP.fconst1 (FP.fmul 1028443341 (FP.i2f (nI j))))) := by rw [gF_wF, if_pos ⟨rfl, rfl⟩]
      have g2 : ∀ a b, gI (wF A 5 3 (FP.fadd (gF A 5 3) (FP.fmul 1045220557 (FP.fadd FP.fconst1 (FP.fmul 1028443341 (FP.i2f (nI j))))))) a b = gI A a b := fun a b => rfl
      have e2 : ∀ n, n ≠ 5 → eqc A (wF A 5 3 (FP.fadd (gF A 5 3) (FP.fmul 1045220557 (FP.fadd FP.fconst1 (FP.fmul 1028443341 (FP.i2f (nI j))))))) n := fun n hn => (eqc.rf A n).wF hn
      have hK2 : Kp A (wF A 5 3 (FP.fadd (gF A 5 3) (FP.fmul 1045220557 (FP.fadd FP.fconst1 (FP.fmul 1028443341 (FP.i2f (nI j))))))) := (Kp.rf A).wF (by decide)
      generalize wF B 26 0 (FP.fadd (gF B 26 0) (FP.fmul 1045220557 (FP.fadd FP.fconst1 (FP.fmul 1028443341 (FP.i2f (nI j)))))) = B2 at *
      generalize FP.fadd (gF A 5 3) (FP.fmul 1045220557 (FP.fadd FP.fconst1 (FP.fmul 1028443341 (FP.i2f (nI j))))) = p' at *
      generalize wF A 5 3 p' = A2 at *
      have bp2 : gF B2 26 0 = p' := (hR2.2.1 26 0 rfl).trans p2
      have u0 : gI A2 5 0 = nI c := (g2 5 0).trans v0
      have u1 : gI A2 5 1 = nI r := (g2 5 1).trans v1
      have u2 : gI A2 5 2 = nI d := (g2 5 2).trans v2
      unfold sp_X1_movePlayer_n5 vc_X1_movePlayer_n5 sp_X7_player_n10 vc_X7_player_n10
      rw [p2, bp2]
      by_cases z : 0 ≤ Op.cmpValue (FP.fcmp p' FP.fconst1) .g
      · rw [if_pos z, if_pos z, if_pos z, if_pos z]
        have z' := (cm1_g pa.1).mp z
        have pl := pg_less pa z'
        obtain ⟨pe1, pe2, pe3⟩ := P_enter (a := 0) hR2 (by decide) hc hr hd u0 u1 u2
        rw [er] at pe3
        have pe3 : sp_X0_enterNextCell A2 5 = wI (wI A2 5 0 (nI (nc c d))) 5 1 (nI (nr r d)) := pe3
        have pe1 : Rl (sp_X0_enterNextCell A2 5) (sp_X7_step B2 0) := pe1
        have w3 : gF (sp_X0_enterNextCell A2 5) 5 3 = p' := by rw [pe3]; exact p2
        have w3' : gF (sp_X7_step B2 0) 26 0 = p' := (pe1.2.1 26 0 rfl).trans w3
        unfold sp_X1_movePlayer_n4 vc_X1_movePlayer_n4 sp_X7_player_n9 vc_X7_player_n9
        rw [w3, w3']
        have hR4 : Rl (wF (sp_X0_enterNextCell A2 5) 5 3 (FP.fsub p' FP.fconst1)) (wF (sp_X7_step B2 0) 26 0 (FP.fsub p' FP.fconst1)) := pe1.wf (c := 26) (k := 0) rfl rfl rfl
        have e4 : ∀ n, n ≠ 5 → eqc A (wF (sp_X0_enterNextCell A2 5) 5 3 (FP.fsub p' FP.fconst1)) n := fun n hn => by
          rw [pe3]; exact (((e2 n hn).wI hn).wI hn).wF hn
        have hG4 : GI N (wF (sp_X0_enterNextCell A2 5) 5 3 (FP.fsub p' FP.fconst1)) := by
          refine hG.ply e4 ?_
          rw [pe3]
          refine ⟨⟨nc c d, nr r d, d, hn, gb1, hd, ?_, ?_, ?_, gb2⟩, ?_, ?_, ?_, ?_⟩
          all_goals simp [gI_wI, gI_wF, gF_wF, gF_wI, g2]
          · exact v2
          · exact pl
          · exact v4
          · exact v5
          · exact v6
        have h134 : gI (wF (sp_X0_enterNextCell A2 5) 5 3 (FP.fsub p' FP.fconst1)) 1 13 = 0 := ((e4 1 (by decide)).1 13).trans h13
        have es4 : gI (wF (sp_X0_enterNextCell A2 5) 5 3 (FP.fsub p' FP.fconst1)) 0 3 = st := ((e4 0 (by decide)).1 3).trans es
        have PE := P_entered hN hR4 hG4 h134 es4 hst
        exact ⟨PE.1, PE.2.1, ⟨nn_vf pl.1, PE.2.2.1⟩, PE.2.2.2.1, ⟨pe2, nn_vf pl.1, PE.2.2.2.2.1⟩, (Kp.one (h := 5) (by decide) e4).tr PE.2.2.2.2.2⟩
      · rw [if_neg z, if_neg z, if_neg z, if_neg z]
        have z' : zz p' < 2 ^ 149 := Classical.byContradiction fun y => z ((cm1_g pa.1).mpr y)
        have pl : pg p' := ⟨pa.1, pa.2.1, by omega⟩
        rw [show moX ((0 : Int32), A2) = A2 from if_pos rfl]
        exact ⟨hG.ply e2 ⟨⟨c, r, d, hc, hr, hd, u0, u1, u2, hw⟩, by rw [p2]; exact pl, (g2 5 4).trans v4, (g2 5 5).trans v5, (g2 5 6).trans v6⟩, hR2, trivial, trivial, trivial, hK2⟩
    have pv := nn_vf pa.1
    refine ⟨key.1, key.2.1, ⟨io.2, nn_vf f1, nn_vf f2, nn_vf f3, pv, key.2.2.1⟩, key.2.2.2.1, ⟨im.2, mv (fun x => vc_X7_player_B78 B x) ?_⟩, key.2.2.2.2.2⟩
    refine ⟨nn_vf f1, nn_vf f2, nn_vf f3, ?_, key.2.2.2.2.1⟩
    rw [bp]; exact pv
theorem P_player {N : Nat} {A B : Mem} {st : Int32} (hN : N ≤ 40000) (hR : Rl A B) (hG : GI N A) (h13 : gI A 1 13 = 0) (es : gI A 0 3 = st) (hst : st = -1 ∨ inR 4 st) :
    GI N (moX (sp_X1_movePlayer A st)) ∧ Rl (moX (sp_X1_movePlayer A st)) (sp_X7_player B) ∧ vc_X1_movePlayer A st ∧ moV (sp_X1_movePlayer A st) ∧ vc_X7_player B ∧ Kp A (moX (sp_X1_movePlayer A st)) := by
  obtain ⟨⟨c, r, d, hc, hr, hd, v0, v1, v2, hw⟩, hp, v4, v5, v6⟩ := hG.2.2.1
  have bp : gF B 26 0 = gF A 5 3 := hR.2.1 26 0 rfl
  have s15 : gI B 20 15 = st := (hR.1 20 15 rfl).trans es
  obtain ⟨q, q1, q2, q3, q4, q5⟩ := e_stk hR hG.1 hc hr v0 v1 v5 es hst
  have P1 := P_walk hN hR hG h13 es hst
  unfold sp_X1_movePlayer vc_X1_movePlayer sp_X7_player vc_X7_player
  rw [q1, q3, bp]
  by_cases p0 : Op.cmpValue (FP.fcmp (gF A 5 3) FP.fconst0) .l = 0
  · rw [if_pos p0, if_pos p0, if_pos p0, if_pos p0]
    by_cases z : q = 0
    · rw [if_pos z, if_pos z, if_pos z]
      refine ⟨P1.1, P1.2.1, ⟨q2, P1.2.2.1⟩, P1.2.2.2.1, q4 _ _ ?_, P1.2.2.2.2.2⟩
      rw [if_pos z]; exact P1.2.2.2.2.1
    · rw [if_neg z, if_neg z, if_neg z]
      obtain ⟨k, hk, ek⟩ := q5 z
      have e1 : ∀ n, n ≠ 5 → eqc A (wI A 5 2 st) n := fun n hn => (eqc.rf A n).wI hn
      have hR1 : Rl (wI A 5 2 st) (wI B 25 0 (gI B 20 15)) := hR.wi (c := 25) (k := 0) rfl rfl s15.symm
      have hG1 : GI N (wI A 5 2 st) := by
        refine hG.ply e1 ⟨⟨c, r, k, hc, hr, hk, ?_, ?_, ?_, hw⟩, ?_, ?_, ?_, ?_⟩
        all_goals simp [gI_wI, gF_wI]
        · exact v0
        · exact v1
        · exact ek
        · exact hp
        · exact v4
        · exact v5
        · exact v6
      have P2 := P_walk hN hR1 hG1 (((e1 1 (by decide)).1 13).trans h13) (((e1 0 (by decide)).1 3).trans es) hst
      refine ⟨P2.1, P2.2.1, ⟨q2, P2.2.2.1⟩, P2.2.2.2.1, q4 _ _ ?_, (Kp.one (h := 5) (by decide) e1).tr P2.2.2.2.2.2⟩
      rw [if_neg z]; exact P2.2.2.2.2.1
  · rw [if_neg p0, if_neg p0, if_neg p0, if_neg p0]
    refine ⟨P1.1, ?_, P1.2.2.1, P1.2.2.2.1, q4 _ _ ?_, P1.2.2.2.2.2⟩
    · split <;> exact P1.2.1
    · split <;> exact P1.2.2.2.2.1
