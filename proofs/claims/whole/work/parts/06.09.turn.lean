theorem e_enter (M : Mem) (h : Nat) : sp_X0_enterNextCell M h = wI (wI M h 0 (sp_X6_nextColumn (gI M h 0) (gI M h 2))) h 1 (sp_X6_nextRow (gI M h 1) (gI M h 2)) := by
  simp [sp_X0_enterNextCell_n1, sp_X0_enterNextCell_n2, sp_X0_enterNextCell, gI_wI]
theorem P_enter {A B : Mem} {a c r d : Nat} (hR : Rl A B) (ha : a < 5) (hc : c < 13) (hr : r < 9) (hd : d < 4) (h0 : gI A (5 + a) 0 = nI c) (h1 : gI A (5 + a) 1 = nI r) (h2 : gI A (5 + a) 2 = nI d) : Rl (sp_X0_enterNextCell A (5 + a)) (sp_X7_step B (nI a)) ∧ vc_X7_step B (nI a) ∧ sp_X0_enterNextCell A (5 + a) = wI (wI A (5 + a) 0 (nI (nc c d))) (5 + a) 1 (nI r + sp_X7_down (nI d)) := by
  have ea : (nI a).toNatClampNeg = a := nI_cl (by omega)
  have rv := (ra_pos a ha).2
  obtain ⟨d0, d1, d2, -⟩ := dA ha
  have b0 : gI B 23 a = nI c := (hR.1 23 a d0).trans h0
  have b1 : gI B 24 a = nI r := (hR.1 24 a d1).trans h1
  have b2 : gI B 25 a = nI d := (hR.1 25 a d2).trans h2
  have e : sp_X0_enterNextCell A (5 + a) = wI (wI A (5 + a) 0 (nI (nc c d))) (5 + a) 1 (nI r + sp_X7_down (nI d)) := by
    rw [e_enter, h0, h1, h2, (g_nc c hc d hd).1, (g_nr r hr d hd).1]
  refine ⟨?_, ?_, e⟩
  · rw [e]
    have eM : sp_X7_step B (nI a) = wI (wI B 24 a (nI r + sp_X7_down (nI d))) 23 a (nI (nc c d)) := by
      simp only [sp_X7_step_n1, sp_X7_step_n2, sp_X7_step_n3, sp_X7_step, sp_X7_nextRow, sp_X7_nextColumn, ea, b0, b1, b2, (g_nc c hc d hd).2.1]
    rw [eM, wI_comm _ _ _ (show ¬ (24 = 23 ∧ a = a) by simp)]
    exact (hR.wi d0 rfl rfl).wi d1 rfl rfl
  · simp only [vc_X7_step_n2, vc_X7_step_n3, vc_X7_step, vc_X7_nextRow, vc_X7_nextColumn]
    simp [rv]
theorem nxw_in {c r d : Nat} (hc : c < 13) (hr : r < 9) (hd : d < 4) (h : nxw c r d = true) : nI r + sp_X7_down (nI d) = nI (nr r d) ∧ nr r d < 9 := by
  rcases (g_nr r hr d hd).2 with ⟨h1, -⟩ | ⟨-, h2⟩
  · unfold nxw at h
    rw [h1] at h
    simp at h
  · exact h2
/-- one hunter's part of GI may be looked at alone -/
theorem GI.hun {N : Nat} {A A' : Mem} {h : Nat} (hG : GI N A) (h6 : 6 ≤ h) (h9 : h ≤ 9) (e : ∀ n, n ≠ h → eqc A A' n) (hn : HUn A' h) : GI N A' := by
  obtain ⟨h1, h2, h3, h4, h5⟩ := hG
  refine ⟨h1.congr (e 3 (by omega)), h2.congr (e 3 (by omega)) ((e 2 (by omega)).1 1), h3.congr (e 5 (by omega)), fun n a b => ?_, h5.congr (fun k _ => (e 1 (by omega)).1 k)⟩
  by_cases q : n = h
  · subst q; exact hn
  · exact (h4 n a b).congr (e n q)
theorem P_turn {N : Nat} {A B : Mem} (hR : Rl A B) (hG : GI N A) {a : Nat} (h1 : 1 ≤ a) (ha : a < 5) (hl : gI A (5 + a) 5 = 0) :
    GI N (sp_X1_turnAbout (wI A (5 + a) 4 1) (5 + a)) ∧ (∀ n, n ≠ 5 + a → eqc A (sp_X1_turnAbout (wI A (5 + a) 4 1) (5 + a)) n) ∧ vc_X1_turnAbout (wI A (5 + a) 4 1) (5 + a) ∧ ∃ B' : Mem, Rl (sp_X1_turnAbout (wI A (5 + a) 4 1) (5 + a)) B' ∧ (∀ K, sp_X7_scare_n7 K (nI a) (wI B 27 a 1) = sp_X7_scare_B134 K (nI a) B') ∧ ∀ KV, vc_X7_scare_B134 KV (nI a) B' → vc_X7_scare_n7 KV (nI a) (wI B 27 a 1) := by
  have ea : (nI a).toNatClampNeg = a := nI_cl (by omega)
  have rv := (ra_pos a ha).2
  obtain ⟨d0, d1, d2, d4, d6, d5, -, -, d3⟩ := dA ha
  obtain ⟨⟨c, r, d, ⟨hc, hr, hd, v0, v1, v2, hw⟩, hnx, hrest⟩, hp, -, -, hq⟩ := hG.2.2.2.1 (5 + a) (by omega) (by omega)
  have r0 : gI A (5 + a) 6 = 0 := Classical.byContradiction fun z => by
    have := (hrest z).1
    rw [hl] at this
    exact absurd this (by decide)
  have hnx := hnx r0
  obtain ⟨gb1, gb2, gb3⟩ := g_back hc hr hd hw hnx
  obtain ⟨er, hr'⟩ := nxw_in hc hr hd hnx
  have hn := (g_nc c hc d hd).2.2
  obtain ⟨bo1, bo2, hb⟩ := g_bk d hd
  -- the memories with the fright noted
  have hR1 : Rl (wI A (5 + a) 4 1) (wI B 27 a 1) := hR.wi d4 rfl rfl
  have g1 : ∀ k, k ≠ 4 → gI (wI A (5 + a) 4 1) (5 + a) k = gI A (5 + a) k := fun k hk => by rw [gI_wI, if_neg (fun z => hk z.2)]
  have gf : ∀ k, gF (wI A (5 + a) 4 1) (5 + a) k = gF A (5 + a) k := fun k => rfl
  have g4 : gI (wI A (5 + a) 4 1) (5 + a) 4 = 1 := by rw [gI_wI, if_pos ⟨rfl, rfl⟩]
  have e1 : ∀ n, n ≠ 5 + a → eqc A (wI A (5 + a) 4 1) n := fun n hn => (eqc.rf A n).wI hn
  have hCE : CE (wI A (5 + a) 4 1) := hG.1.congr (e1 3 (by omega))
  generalize wI A (5 + a) 4 1 = A1 at *
  generalize wI B 27 a 1 = B1 at *
  rw [← g1 0 (by decide)] at v0
  rw [← g1 1 (by decide)] at v1
  rw [← g1 2 (by decide)] at v2
  rw [← g1 5 (by decide)] at hl
  rw [← g1 6 (by decide)] at r0 hq
  rw [← gf 3] at hp
  have w2 : gI B1 25 a = nI d := (hR1.1 25 a d2).trans v2
  have wp : gF B1 26 a = gF A1 (5 + a) 3 := hR1.2.1 26 a d3
  have io := e_isOpen (h := 5 + a) hc hr hb v0 v1 hCE.ne
  have im := e_open hR1 ha hc hr hb v0 v1 (fun z => by omega)
  simp only [sp_X1_turnAbout, vc_X1_turnAbout, v2, bo1, sp_X1_turnAbout_n5, vc_X1_turnAbout_n5, sp_X7_scare_n7, vc_X7_scare_n7, ea, w2, bo2, sp_X7_scare_n6, vc_X7_scare_n6, wp, io.1, im.1]
  by_cases p0 : Op.cmpValue (FP.fcmp (gF A1 (5 + a) 3) FP.fconst0) .l = 0
  · simp only [if_pos p0]
    by_cases o0 : opn A1 c r (bk d) (gI A1 (5 + a) 5) = 0
    · simp only [if_pos o0, sp_X1_turnAbout_B56]
      refine ⟨hG.hun (by omega) (by omega) e1 ⟨⟨c, r, d, ⟨hc, hr, hd, v0, v1, v2, hw⟩, fun _ => hnx, fun z => absurd r0 z⟩, hp, Or.inr g4, Or.inl hl, hq⟩, e1, io.2, B1, hR1, fun K => rfl, fun KV h => ⟨rv, rv, im.2, h⟩⟩
    · simp only [if_neg o0, sp_X1_turnAbout_n1, sp_X1_turnAbout_B56, sp_X7_scare_n2, vc_X7_scare_n2]
      have q : ∀ k, k ≠ 2 → gI (wI A1 (5 + a) 2 (nI (bk d))) (5 + a) k = gI A1 (5 + a) k := fun k hk => by rw [gI_wI, if_neg (fun z => hk z.2)]
      have q2 : gI (wI A1 (5 + a) 2 (nI (bk d))) (5 + a) 2 = nI (bk d) := by rw [gI_wI, if_pos ⟨rfl, rfl⟩]
      have e2 : ∀ n, n ≠ 5 + a → eqc A (wI A1 (5 + a) 2 (nI (bk d))) n := fun n hn => (e1 n hn).wI hn
      refine ⟨hG.hun (by omega) (by omega) e2 ⟨⟨c, r, bk d, ⟨hc, hr, hb, by rw [q 0 (by decide)]; exact v0, by rw [q 1 (by decide)]; exact v1, q2, hw⟩, fun _ => opn_nxw hCE hc hr hb o0, fun z => absurd (by rw [q 6 (by decide)]; exact r0) z⟩, by rw [gF_wI]; exact hp, Or.inr (by rw [q 4 (by decide)]; exact g4), Or.inl (by rw [q 5 (by decide)]; exact hl), by rw [q 6 (by decide)]; exact hq⟩, e2, io.2, _, hR1.wi d2 rfl rfl, fun K => rfl, fun KV h => ⟨rv, rv, im.2, rv, h⟩⟩
  · simp only [if_neg p0]
    obtain ⟨pe1, pe2, pe3⟩ := P_enter hR1 ha hc hr hd v0 v1 v2
    have pm : sp_X7_step B1 (nI a) = sp_X7_step B1 (nI a) := rfl
    simp only [sp_X1_turnAbout_n4, vc_X1_turnAbout_n4, sp_X1_turnAbout_n3, vc_X1_turnAbout_n3, sp_X1_turnAbout_n2, sp_X1_turnAbout_B56, sp_X7_scare_n5, vc_X7_scare_n5, sp_X7_scare_n4, vc_X7_scare_n4, sp_X7_scare_n3, vc_X7_scare_n3, ea]
    rw [er] at pe3
    have f0 : gF (wI (sp_X0_enterNextCell A1 (5 + a)) (5 + a) 2 (nI (bk d))) (5 + a) 3 = gF A1 (5 + a) 3 := by rw [pe3]; rfl
    have f1 : gF (sp_X7_step B1 (nI a)) 26 a = gF A1 (5 + a) 3 := by
      rw [pe1.2.1 26 a d3]
      show gF (sp_X0_enterNextCell A1 (5 + a)) (5 + a) 3 = _
      rw [pe3]; rfl
    rw [f0, f1]
    have hpb := pg_back hp
    have e2 : ∀ n, n ≠ 5 + a → eqc A (wF (wI (sp_X0_enterNextCell A1 (5 + a)) (5 + a) 2 (nI (bk d))) (5 + a) 3 (FP.fsub FP.fconst1 (gF A1 (5 + a) 3))) n := fun n hn => by
      rw [pe3]
      exact ((((e1 n hn).wI hn).wI hn).wI hn).wF hn
    refine ⟨hG.hun (by omega) (by omega) e2 ?_, e2, nn_vf hpb.1, _, (pe1.wi d2 rfl rfl).wf d3 rfl rfl, fun K => by rw [wIF_comm], fun KV h => ⟨rv, rv, pe2, rv, nn_vf hpb.1, rv, rv, by rw [wIF_comm]; exact h⟩⟩
    rw [pe3]
    refine ⟨⟨nc c d, nr r d, bk d, ⟨hn, gb1, hb, ?_, ?_, ?_, gb2⟩, fun _ => gb3, fun z => absurd ?_ z⟩, ?_, Or.inr ?_, Or.inl ?_, ?_⟩
    all_goals simp [gI_wI, gI_wF, gF_wF]
    · exact r0
    · exact hpb
    · exact g4
    · exact hl
    · exact hq
