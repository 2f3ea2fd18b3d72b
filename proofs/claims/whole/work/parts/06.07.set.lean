theorem le_or {x y : Int32} : (if x < y then y else x) = (if y ≤ x then x else y) := by
  by_cases h : x < y
  · rw [if_pos h, if_neg (Int32.not_le.mpr h)]
  · rw [if_neg h, if_pos (Int32.not_lt.mp h)]
def ptX (A : Mem) (p : Int32) : Mem := if gI A 1 4 + p < 3000 then wI (wI A 1 4 (gI A 1 4 + p)) 1 5 (if gI A 1 5 < gI A 1 4 + p then gI A 1 4 + p else gI A 1 5) else if gI A 1 9 = 0 then wI (wI (wI (wI A 1 4 (gI A 1 4 + p)) 1 5 (if gI A 1 5 < gI A 1 4 + p then gI A 1 4 + p else gI A 1 5)) 1 9 1) 1 6 (gI A 1 6 + 1) else wI (wI A 1 4 (gI A 1 4 + p)) 1 5 (if gI A 1 5 < gI A 1 4 + p then gI A 1 4 + p else gI A 1 5)
theorem e_addPoints (A : Mem) (p : Int32) : sp_X1_addPoints A p = ptX A p := by
  simp [sp_X1_addPoints_B57, sp_X1_addPoints_n1, sp_X1_addPoints_n2, sp_X1_addPoints_n3, sp_X1_addPoints_n4, sp_X1_addPoints, sp_J9_max_7cf53_B10, sp_J9_max_7cf53, gI_wI, ptX]
theorem e_points (B : Mem) (p : Int32) : sp_X7_points B p = if gI B 20 4 + p < 3000 then wI (wI B 20 4 (gI B 20 4 + p)) 20 5 (if gI B 20 5 < gI B 20 4 + p then gI B 20 4 + p else gI B 20 5) else if gI B 20 6 = 0 then wI (wI (wI (wI B 20 4 (gI B 20 4 + p)) 20 6 1) 20 7 (gI B 20 7 + 1)) 20 5 (if gI B 20 5 < gI B 20 4 + p then gI B 20 4 + p else gI B 20 5) else wI (wI B 20 4 (gI B 20 4 + p)) 20 5 (if gI B 20 5 < gI B 20 4 + p then gI B 20 4 + p else gI B 20 5) := by
  simp only [sp_X7_points_n1, sp_X7_points_B65, sp_X7_points_B42, sp_X7_points_n2, sp_X7_points_n3, sp_X7_points_n4, sp_X7_points, gI_wI, le_or]
  simp
  repeat' split
  all_goals rfl
theorem pt_eqc (A : Mem) (p : Int32) (c : Nat) (hc : c ≠ 1) : eqc A (sp_X1_addPoints A p) c := by
  rw [e_addPoints]
  unfold ptX
  repeat' split
  all_goals first | exact ((eqc.rf A c).wI hc).wI hc | exact ((((eqc.rf A c).wI hc).wI hc).wI hc).wI hc
theorem pt_keep (A : Mem) (p : Int32) (k : Nat) (h : k ≠ 4 ∧ k ≠ 5 ∧ k ≠ 6 ∧ k ≠ 9) : gI (sp_X1_addPoints A p) 1 k = gI A 1 k := by
  rw [e_addPoints]
  unfold ptX
  repeat' split
  all_goals simp [gI_wI, h]
theorem P_points {A B : Mem} (hR : Rl A B) (p : Int32) : Rl (sp_X1_addPoints A p) (sp_X7_points B p) := by
  obtain ⟨s2, s3, s4, s5, s6, s7, s8, s9, s10, s11, s12, s13, s14, s15, s28, s29, s30⟩ := hR.s
  refine hR.scal (fun c _ hc => pt_eqc A p c hc) (fun c hc => ?_) ?_
  · rw [e_points]
    repeat' split
    all_goals first | exact ((eqc.rf B c).wI hc).wI hc | exact ((((eqc.rf B c).wI hc).wI hc).wI hc).wI hc
  · rw [e_addPoints, e_points]
    unfold ptX
    rw [s4, s5, s6, s7]
    repeat' split
    all_goals simp [gI_wI, s2, s3, s4, s5, s6, s7, s8, s9, s10, s11, s12, s13, s14, s15, s28, s29, s30]
theorem G_points {N : Nat} {A : Mem} (hG : GI N A) (p : Int32) : GI N (sp_X1_addPoints A p) := by
  obtain ⟨h1, h2, h3, h4, g1, g2, g3, g4, g5, g6⟩ := hG
  refine ⟨h1.congr (pt_eqc A p 3 (by decide)), h2.congr (pt_eqc A p 3 (by decide)) ((pt_eqc A p 2 (by decide)).1 1), h3.congr (pt_eqc A p 5 (by decide)), fun h a b => (h4 h a b).congr (pt_eqc A p h (by omega)), ?_⟩
  have k3 := pt_keep A p 3 (by decide)
  have k7 := pt_keep A p 7 (by decide)
  have k8 := pt_keep A p 8 (by decide)
  have k10 := pt_keep A p 10 (by decide)
  unfold GS
  rw [k3, k7, k8, k10]
  have e69 : (gI (sp_X1_addPoints A p) 1 6 = gI A 1 6 ∧ gI (sp_X1_addPoints A p) 1 9 = gI A 1 9) ∨ (gI A 1 9 = 0 ∧ gI (sp_X1_addPoints A p) 1 6 = gI A 1 6 + 1 ∧ gI (sp_X1_addPoints A p) 1 9 = 1) := by
    rw [e_addPoints]
    unfold ptX
    by_cases c1 : gI A 1 4 + p < 3000
    · rw [if_pos c1]; left; simp [gI_wI]
    · rw [if_neg c1]
      by_cases c2 : gI A 1 9 = 0
      · rw [if_pos c2]; right; simp [gI_wI, c2]
      · rw [if_neg c2]; left; simp [gI_wI]
  rcases e69 with ⟨e6, e9⟩ | ⟨z, e6, e9⟩
  · rw [e6, e9]; exact ⟨g1, g2, g3, g4, g5, g6⟩
  · rw [e6, e9]
    refine ⟨g1, fun on => ?_, g3, g4, Or.inr rfl, g6⟩
    obtain ⟨k, k1, k2, k3, k4⟩ := g2 on
    exact ⟨k + 1, by omega, by have := k4 z; omega, by rw [k3]; exact nI_1 k, fun h => absurd h (by decide)⟩
theorem e_setUp (A : Mem) : sp_X1_setUp A = sp_X1_placeActors (fillX (wI (wI (wI (wI A 1 4 0) 1 8 0) 1 9 0) 1 12 1)) ∧ vc_X1_setUp A := by
  have e : sp_X1_setUp A = sp_X1_placeActors (sp_X2_refill (wI (wI (wI (wI A 1 4 0) 1 8 0) 1 9 0) 1 12 1)) := rfl
  rw [e, (e_refill _).1]
  refine ⟨rfl, (e_refill _).2, ?_⟩
  show vc_X1_placeActors _
  exact ⟨vc_place, vc_place, vc_place, vc_place, vc_place⟩
/-- the game's numbers, the rest of them, as a game begins (or is over) -/
theorem G_setUp {N : Nat} {A : Mem} (h3 : bo (gI A 1 3)) (h6 : gI A 1 3 = 1 → ∃ k : Nat, 1 ≤ k ∧ k ≤ 3 ∧ gI A 1 6 = nI k) (h7 : ∃ k : Nat, k ≤ N ∧ gI A 1 7 = nI k) : GI N (sp_X1_setUp A) := by
  rw [(e_setUp A).1]
  have hf := fillX_CE (wI (wI (wI (wI A 1 4 0) 1 8 0) 1 9 0) 1 12 1)
  -- fright may be anything: it becomes 0 by placing
  have key : ∀ X : Mem, CE X → LE X → bo (gI X 1 3) → (gI X 1 3 = 1 → ∃ k : Nat, 1 ≤ k ∧ k ≤ 3 ∧ gI X 1 6 = nI k) → (∃ k : Nat, k ≤ N ∧ gI X 1 7 = nI k) → gI X 1 8 = 0 → gI X 1 9 = 0 → GI N (sp_X1_placeActors X) := by
    intro X c1 c2 c3 c4 c5 c6 c7
    have hw : GS N (wI X 1 10 0) := by
      unfold GS
      simp only [gI_wI]
      simp
      refine ⟨c3, fun on => ?_, c5, ⟨0, by decide, c6⟩, Or.inl c7, ⟨0, by decide, rfl⟩⟩
      obtain ⟨k, k1, k2, k3⟩ := c4 on
      exact ⟨k, k1, by omega, k3, fun _ => k2⟩
    have e : sp_X1_placeActors (wI X 1 10 0) = sp_X1_placeActors X := by
      rw [e_placeActors, e_placeActors]
      refine Mem.ext' (fun a b => ?_) (fun a b => ?_)
      · simp only [e_place, gI_wI, gI_wF]
        by_cases q : a = 1 ∧ b = 10
        · simp [q]
        · simp [q]
      · simp only [e_place, gF_wI, gF_wF]
    rw [← e]
    exact G_placeActors (c1.congr ((eqc.rf X 3).wI (by decide))) (c2.congr ((eqc.rf X 3).wI (by decide)) (by rw [gI_wI, if_neg (by decide)])) hw
  refine key _ hf.1 hf.2 ?_ ?_ ?_ ?_ ?_ <;> simp only [g_fillX, gI_wI] <;> simp
  · exact h3
  · exact h6
  · exact h7
