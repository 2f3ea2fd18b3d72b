def VO (A : Mem) : Prop := ∀ v, v < 3 → vl (gF A (12 + v) 2)
def BI (F : Nat) (A : Mem) : Prop := inR 10 (gI A 0 2) ∧ (gI A 0 3 = -1 ∨ inR 4 (gI A 0 3)) ∧ gI A 0 5 = nI F ∧ VO A
def Inv (F : Nat) (A : Mem) : Prop := GI (F + 1) A ∧ BI F A ∧ F ≤ 30720
theorem sp_setUp_eqc (A : Mem) (n : Nat) (h0 : n = 0 ∨ 10 ≤ n) : eqc A (sp_X1_setUp A) n := by
  rw [(e_setUp A).1, e_placeActors]
  have q : ∀ X : Mem, eqc A X n → ∀ h c r d s, 5 ≤ h → h ≤ 9 → eqc A (sp_X0_place X h c r d s) n := fun X e h c r d s h1 h2 => e.tr (place_eqc _ _ _ _ _ _ n (by omega))
  refine ((q _ (q _ (q _ (q _ (q _ ?_ _ _ _ _ _ (by decide) (by decide)) _ _ _ _ _ (by decide) (by decide)) _ _ _ _ _ (by decide) (by decide)) _ _ _ _ _ (by decide) (by decide)) _ _ _ _ _ (by decide) (by decide)).wI (by omega)).wI (by omega)
  exact (((((eqc.rf A n).wI (by omega)).wI (by omega)).wI (by omega)).wI (by omega)).tr (fillX_eqc _ n (by omega) (by omega))
theorem P_start {A B : Mem} {F : Nat} (hR : Rl A B) (hI : Inv F A) : (sp_X6_start A).1 = (sp_X7_start B).1 ∧ Rl (sp_X6_start A).2 (sp_X7_start B).2 ∧ Inv F (sp_X6_start A).2 ∧ vc_X6_start A ∧ vc_X7_start B := by
  obtain ⟨s2, s3, s4, s5, s6, s7, s8, s9, s10, s11, s12, s13, s14, s15, s28, s29, s30⟩ := hR.s
  unfold sp_X6_start sp_X7_start vc_X6_start vc_X7_start
  rw [s2, s3]
  by_cases c1 : gI A 0 2 = 0
  · simp only [if_pos c1]
    exact ⟨rfl, hR, hI, trivial, trivial⟩
  · simp only [if_neg c1]
    by_cases c2 : gI A 1 3 = 0
    · simp only [if_pos c2]
      have eX : sp_X6_start_n2 (wI A 0 2 (gI A 0 2 - 1)) = (1, sp_X1_setUp (wI (wI (wI (wI A 0 2 (gI A 0 2 - 1)) 1 3 1) 1 6 3) 1 7 1)) := rfl
      have eM : sp_X7_start_n10 (wI B 20 2 (gI A 0 2 - 1)) = (1, sp_X7_place (sp_X7_fill (wI (wI (wI (wI (wI (wI (wI (wI B 20 2 (gI A 0 2 - 1)) 20 3 1) 20 8 1) 20 7 3) 20 4 0) 20 6 0) 20 11 0) 20 14 1))) := rfl
      rw [eX, eM, (e_fill _).1]
      have hS : Rl (wI (wI (wI (wI (wI (wI (wI (wI A 0 2 (gI A 0 2 - 1)) 1 3 1) 1 6 3) 1 7 1) 1 4 0) 1 8 0) 1 9 0) 1 12 1) (wI (wI (wI (wI (wI (wI (wI (wI B 20 2 (gI A 0 2 - 1)) 20 3 1) 20 8 1) 20 7 3) 20 4 0) 20 6 0) 20 11 0) 20 14 1) := by
        refine hR.scal (fun c h0 h1 => ?_) (fun c hc => ?_) ?_
        · exact ((((((((eqc.rf A c).wI h0).wI h1).wI h1).wI h1).wI h1).wI h1).wI h1).wI h1
        · exact ((((((((eqc.rf B c).wI hc).wI hc).wI hc).wI hc).wI hc).wI hc).wI hc).wI hc
        · simp [gI_wI, s2, s3, s4, s5, s6, s7, s8, s9, s10, s11, s12, s13, s14, s15, s28, s29, s30]
      have hP := P_placeActors (P_fill hS)
      refine ⟨rfl, ?_, ⟨?_, ?_, hI.2.2⟩, ?_, ?_⟩
      · show Rl (sp_X1_setUp _) _
        rw [(e_setUp _).1]
        exact hP.1
      · show GI (F + 1) (sp_X1_setUp _)
        refine G_setUp (Or.inr ?_) (fun _ => ⟨3, by decide, by decide, ?_⟩) ⟨1, by omega, ?_⟩ <;> simp only [gI_wI] <;> rfl
      · show BI F (sp_X1_setUp _)
        obtain ⟨b1, b2, b3, b4⟩ := hI.2.1
        have e0 := sp_setUp_eqc (wI (wI (wI (wI A 0 2 (gI A 0 2 - 1)) 1 3 1) 1 6 3) 1 7 1) 0 (Or.inl rfl)
        refine ⟨?_, ?_, ?_, fun v hv => ?_⟩
        · rw [e0.1]
          simp only [gI_wI]
          obtain ⟨k, k1, k2⟩ := b1
          refine ⟨k - 1, by omega, ?_⟩
          have : 0 < k := by
            rcases Nat.eq_zero_or_pos k with z | z
            · subst z; exact absurd k2 c1
            · exact z
          obtain ⟨j, rfl⟩ : ∃ j, k = j + 1 := ⟨k - 1, by omega⟩
          simp only [k2]
          exact nI_pred j
        · rw [e0.1]; simpa [gI_wI] using b2
        · rw [e0.1]; simpa [gI_wI] using b3
        · rw [(sp_setUp_eqc _ (12 + v) (by omega)).2]
          simp only [gF_wI]
          exact b4 v hv
      · exact (e_setUp _).2
      · show vc_X7_fill _ ∧ vc_X7_place (sp_X7_fill _)
        rw [(e_fill _).1]
        exact ⟨(e_fill _).2, hP.2.2⟩
    · simp only [if_neg c2]
      exact ⟨rfl, hR, hI, trivial, trivial⟩
/-! the watchdog's reset -/
theorem fillX_w0 (A : Mem) (k : Nat) (v : Int32) : wI (fillX A) 0 k v = fillX (wI A 0 k v) := by
  refine Mem.ext' (fun a b => ?_) (fun a b => rfl)
  simp only [gI_wI, g_fillX]
  by_cases h : a = 0
  · simp [h]
  · simp [h]
theorem place_w0 (A : Mem) (k h : Nat) (v c r d s : Int32) (hh : h ≠ 0) : wI (sp_X0_place A h c r d s) 0 k v = sp_X0_place (wI A 0 k v) h c r d s := by
  refine Mem.ext' (fun a b => ?_) (fun a b => ?_)
  · simp only [e_place, gI_wI, gI_wF]
    by_cases q : a = 0
    · simp [q, Ne.symm hh]
    · simp [q]
  · simp only [e_place, gF_wI, gF_wF]
theorem placeActors_w0 (A : Mem) (k : Nat) (v : Int32) : wI (sp_X1_placeActors A) 0 k v = sp_X1_placeActors (wI A 0 k v) := by
  rw [e_placeActors, e_placeActors, wI_comm _ _ _ (show ¬ (1 = 0 ∧ 11 = k) by simp), wI_comm _ _ _ (show ¬ (1 = 0 ∧ 10 = k) by simp)]
  rw [place_w0 _ _ _ _ _ _ _ _ (by decide), place_w0 _ _ _ _ _ _ _ _ (by decide), place_w0 _ _ _ _ _ _ _ _ (by decide), place_w0 _ _ _ _ _ _ _ _ (by decide), place_w0 _ _ _ _ _ _ _ _ (by decide)]
theorem e_hush (M : Mem) (h : Nat) : sp_X5_silence M h = wI (wF (wI M h 0 0) h 2 FP.fconst0) h 1 0 := rfl
theorem hush_w0 (A : Mem) (k h : Nat) (v : Int32) (hh : h ≠ 0) : wI (sp_X5_silence A h) 0 k v = sp_X5_silence (wI A 0 k v) h := by
  rw [e_hush, e_hush, wI_comm _ _ _ (fun z => hh z.1), wIF_comm, wI_comm _ _ _ (fun z => hh z.1)]
theorem e_silence (A : Mem) : sp_X4_silence A = sp_X5_silence (sp_X5_silence (sp_X5_silence A 12) 13) 14 ∧ vc_X4_silence A := by
  refine ⟨rfl, ?_⟩
  refine ⟨?_, ?_, ?_, trivial⟩ <;> (unfold vp_in; decide)
theorem dV {v : Nat} (hv : v < 3) : dI 32 v = true ∧ dI 33 v = true ∧ dF 34 v = true := by
  rcases lt3 hv with rfl | rfl | rfl <;> decide
theorem P_hush {A B : Mem} (hR : Rl A B) {v : Nat} (hv : v < 3) : Rl (sp_X5_silence A (12 + v)) (wF (wI (wI B 32 v 0) 33 v 0) 34 v FP.fconst0) := by
  obtain ⟨d1, d2, d3⟩ := dV hv
  rw [e_hush, wIF_comm]
  exact (((hR.wi d1 rfl rfl).wi d2 rfl rfl).wf d3 rfl rfl)
def scX (A : Mem) : Mem := wI (wI (wI (wI (wI (wI (wI (wI (wI (wI A 1 3 0) 1 6 0) 1 7 0) 1 4 0) 1 8 0) 1 9 0) 1 12 1) 0 2 0) 0 3 (-1)) 0 4 0
def scM (B : Mem) : Mem := wI (wI (wI (wI (wI (wI (wI (wI (wI (wI B 20 2 0) 20 3 0) 20 4 0) 20 6 0) 20 7 0) 20 8 0) 20 11 0) 20 12 0) 20 14 1) 20 15 (-1)
theorem e_reset (A : Mem) : sp_X6_reset A = sp_X5_silence (sp_X5_silence (sp_X5_silence (sp_X1_placeActors (fillX (scX A))) 12) 13) 14 ∧ vc_X6_reset A := by
  have e : sp_X6_reset A = wI (wI (wI (sp_X4_silence (sp_X1_setUp (wI (wI (wI A 1 3 0) 1 6 0) 1 7 0))) 0 2 0) 0 3 (-1)) 0 4 0 := rfl
  refine ⟨?_, (e_setUp _).2, (e_silence _).2⟩
  rw [e, (e_silence _).1, (e_setUp _).1]
  simp only [hush_w0 _ _ _ _ (show (14 : Nat) ≠ 0 by decide), hush_w0 _ _ _ _ (show (13 : Nat) ≠ 0 by decide), hush_w0 _ _ _ _ (show (12 : Nat) ≠ 0 by decide), placeActors_w0, fillX_w0]
  rfl
theorem P_reset {A B : Mem} {F : Nat} (hR : Rl A B) (hI : BI F A) (hF : F ≤ 30720) : Rl (sp_X6_reset A) (sp_X7_reset B) ∧ Inv F (sp_X6_reset A) ∧ vc_X6_reset A ∧ vc_X7_reset B := by
  obtain ⟨s2, s3, s4, s5, s6, s7, s8, s9, s10, s11, s12, s13, s14, s15, s28, s29, s30⟩ := hR.s
  have hS : Rl (scX A) (scM B) := by
    unfold scX scM
    refine hR.scal (fun c h0 h1 => ?_) (fun c hc => ?_) ?_
    · exact ((((((((((eqc.rf A c).wI h1).wI h1).wI h1).wI h1).wI h1).wI h1).wI h1).wI h0).wI h0).wI h0
    · exact ((((((((((eqc.rf B c).wI hc).wI hc).wI hc).wI hc).wI hc).wI hc).wI hc).wI hc).wI hc).wI hc
    · simp [gI_wI, s2, s3, s4, s5, s6, s7, s8, s9, s10, s11, s12, s13, s14, s15, s28, s29, s30]
  have hP := P_placeActors (P_fill hS)
  have eV : ∀ X : Mem, sp_X7_reset_B60 4 0 X = wF (wI (wI (wF (wI (wI (wF (wI (wI X 32 0 0) 33 0 0) 34 0 FP.fconst0) 32 1 0) 33 1 0) 34 1 FP.fconst0) 32 2 0) 33 2 0) 34 2 FP.fconst0 := fun X => rfl
  have eM : sp_X7_reset B = sp_X7_reset_B60 4 0 (sp_X7_place (sp_X7_fill (scM B))) := rfl
  have eX := (e_reset A).1
  refine ⟨?_, ⟨?_, ?_, hF⟩, (e_reset A).2, ?_⟩
  · rw [eX, eM, eV, (e_fill _).1]
    exact P_hush (P_hush (P_hush hP.1 (v := 0) (by decide)) (v := 1) (by decide)) (v := 2) (by decide)
  · have hg : GI (F + 1) (sp_X1_setUp (wI (wI (wI A 1 3 0) 1 6 0) 1 7 0)) := by
      refine G_setUp (Or.inl ?_) (fun z => ?_) ⟨0, by omega, ?_⟩
      · simp [gI_wI]
      · simp [gI_wI] at z
      · simp [gI_wI, nI_0]
    have e : ∀ n, n ≠ 0 → n < 12 → eqc (sp_X1_setUp (wI (wI (wI A 1 3 0) 1 6 0) 1 7 0)) (sp_X6_reset A) n := by
      intro n h0 h12
      show eqc _ (wI (wI (wI (sp_X4_silence (sp_X1_setUp (wI (wI (wI A 1 3 0) 1 6 0) 1 7 0))) 0 2 0) 0 3 (-1)) 0 4 0) n
      rw [(e_silence _).1, e_hush, e_hush, e_hush]
      exact (((((((((((((eqc.rf _ n).wI (by omega)).wF (by omega)).wI (by omega)).wI (by omega)).wF (by omega)).wI (by omega)).wI (by omega)).wF (by omega)).wI (by omega)).wI h0).wI h0).wI h0)
    obtain ⟨h1, h2, h3, h4, h5⟩ := hg
    exact ⟨h1.congr (e 3 (by decide) (by decide)), h2.congr (e 3 (by decide) (by decide)) ((e 2 (by decide) (by decide)).1 1), h3.congr (e 5 (by decide) (by decide)), fun h a b => (h4 h a b).congr (e h (by omega) (by omega)), h5.congr (fun k _ => (e 1 (by decide) (by decide)).1 k)⟩
  · obtain ⟨b1, b2, b3, b4⟩ := hI
    have e0 := sp_setUp_eqc (wI (wI (wI A 1 3 0) 1 6 0) 1 7 0) 0 (Or.inl rfl)
    have er : sp_X6_reset A = wI (wI (wI (sp_X5_silence (sp_X5_silence (sp_X5_silence (sp_X1_setUp (wI (wI (wI A 1 3 0) 1 6 0) 1 7 0)) 12) 13) 14) 0 2 0) 0 3 (-1)) 0 4 0 := rfl
    rw [er]
    generalize sp_X1_setUp (wI (wI (wI A 1 3 0) 1 6 0) 1 7 0) = X at e0
    have e5 : gI X 0 5 = nI F := by
      rw [e0.1]
      simpa [gI_wI] using b3
    refine ⟨⟨0, by decide, ?_⟩, Or.inl ?_, ?_, fun v hv => ?_⟩
    · simp [gI_wI, nI_0]
    · simp [gI_wI]
    · simp [gI_wI, e_hush, gI_wF, e5]
    · rcases lt3 hv with rfl | rfl | rfl <;> simp [e_hush, gF_wI, gF_wF] <;> exact vl_0
  · show vc_X7_fill _ ∧ (vc_X7_place (sp_X7_fill _) ∧ _)
    rw [(e_fill _).1]
    refine ⟨(e_fill _).2, hP.2.2, ?_⟩
    refine ⟨?_, ?_, ?_, ?_, ?_, ?_, ?_, ?_, ?_, trivial⟩ <;> (unfold vp_in; decide)
