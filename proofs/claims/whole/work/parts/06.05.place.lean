/-! PLACING, FILLING, BEGINNING -/
theorem e_placeActors (A : Mem) : sp_X1_placeActors A = wI (wI (sp_X0_place (sp_X0_place (sp_X0_place (sp_X0_place (sp_X0_place A 5 6 6 1 0) 6 6 2 1 0) 7 6 4 0 40) 8 5 4 0 80) 9 7 4 0 120) 1 10 0) 1 11 0 := rfl
theorem e_placeM (B : Mem) : sp_X7_place B = wI (wI (sp_X7_put (sp_X7_put (sp_X7_put (sp_X7_put (sp_X7_put B 0 6 6 1 0) 1 6 2 1 0) 2 6 4 0 40) 3 5 4 0 80) 4 7 4 0 120) 20 10 0) 20 9 0 := rfl
theorem P_placeActors {A B : Mem} (hR : Rl A B) : Rl (sp_X1_placeActors A) (sp_X7_place B) ∧ vc_X1_placeActors A ∧ vc_X7_place B := by
  have h5 := P_place (P_place (P_place (P_place (P_place hR (a := 0) (by decide) 6 6 1 0) (a := 1) (by decide) 6 2 1 0) (a := 2) (by decide) 6 4 0 40) (a := 3) (by decide) 5 4 0 80) (a := 4) (by decide) 7 4 0 120
  refine ⟨?_, ?_, ?_⟩
  · rw [e_placeActors, e_placeM, wI_comm _ _ _ (show ¬ (20 = 20 ∧ 10 = 9) by decide)]
    exact (h5.wi (c := 20) (k := 9) rfl rfl rfl).wi (c := 20) (k := 10) rfl rfl rfl
  · exact ⟨vc_place, vc_place, vc_place, vc_place, vc_place⟩
  · exact ⟨(e_put _ 0 (by decide) _ _ _ _).2, (e_put _ 1 (by decide) _ _ _ _).2, (e_put _ 2 (by decide) _ _ _ _).2, (e_put _ 3 (by decide) _ _ _ _).2, (e_put _ 4 (by decide) _ _ _ _).2⟩
theorem G_placeActors {N : Nat} {A : Mem} (hc : CE A) (hl : LE A) (hs : GS N A) : GI N (sp_X1_placeActors A) := by
  rw [e_placeActors]
  have E1 : ∀ n, n ≠ 5 → eqc A (sp_X0_place A 5 6 6 1 0) n := fun n hn => place_eqc _ _ _ _ _ _ n hn
  have a1 := place_at A 5 6 6 1 0
  generalize sp_X0_place A 5 6 6 1 0 = A1 at E1 a1 ⊢
  have E2 : ∀ n, n ≠ 6 → eqc A1 (sp_X0_place A1 6 6 2 1 0) n := fun n hn => place_eqc _ _ _ _ _ _ n hn
  have a2 := place_at A1 6 6 2 1 0
  generalize sp_X0_place A1 6 6 2 1 0 = A2 at E2 a2 ⊢
  have E3 : ∀ n, n ≠ 7 → eqc A2 (sp_X0_place A2 7 6 4 0 40) n := fun n hn => place_eqc _ _ _ _ _ _ n hn
  have a3 : HUn (sp_X0_place A2 7 6 4 0 40) 7 := place_rest A2 7 6 40 (by simp) (by decide)
  generalize sp_X0_place A2 7 6 4 0 40 = A3 at E3 a3 ⊢
  have E4 : ∀ n, n ≠ 8 → eqc A3 (sp_X0_place A3 8 5 4 0 80) n := fun n hn => place_eqc _ _ _ _ _ _ n hn
  have a4 : HUn (sp_X0_place A3 8 5 4 0 80) 8 := place_rest A3 8 5 80 (by simp) (by decide)
  generalize sp_X0_place A3 8 5 4 0 80 = A4 at E4 a4 ⊢
  have E5 : ∀ n, n ≠ 9 → eqc A4 (sp_X0_place A4 9 7 4 0 120) n := fun n hn => place_eqc _ _ _ _ _ _ n hn
  have a5 : HUn (sp_X0_place A4 9 7 4 0 120) 9 := place_rest A4 9 7 120 (by simp) (by decide)
  generalize sp_X0_place A4 9 7 4 0 120 = A5 at E5 a5 ⊢
  have EF : ∀ n, n ≠ 1 → eqc A5 (wI (wI A5 1 10 0) 1 11 0) n := fun n hn => ((eqc.rf A5 n).wI hn).wI hn
  have E0 : ∀ n, n < 5 → n ≠ 1 → eqc A (wI (wI A5 1 10 0) 1 11 0) n := fun n h1 h2 => (((((E1 n (by omega)).tr (E2 n (by omega))).tr (E3 n (by omega))).tr (E4 n (by omega))).tr (E5 n (by omega))).tr (EF n h2)
  have E0' : eqc A A5 1 := ((((E1 1 (by omega)).tr (E2 1 (by omega))).tr (E3 1 (by omega))).tr (E4 1 (by omega))).tr (E5 1 (by omega))
  refine ⟨hc.congr (E0 3 (by decide) (by decide)), hl.congr (E0 3 (by decide) (by decide)) ((E0 2 (by decide) (by decide)).1 1), ?_, ?_, ?_⟩
  · have e : eqc A1 (wI (wI A5 1 10 0) 1 11 0) 5 := ((((E2 5 (by omega)).tr (E3 5 (by omega))).tr (E4 5 (by omega))).tr (E5 5 (by omega))).tr (EF 5 (by decide))
    obtain ⟨b0, b1, b2, b3, b4, b5, b6⟩ := a1
    have hp : PLy A1 := ⟨⟨6, 6, 1, by decide, by decide, by decide, b0, b1, b2, by decide +kernel⟩, by rw [b3]; exact pg_zero, b4, b5, b6⟩
    exact hp.congr e
  · intro h h1 h2
    rcases (show h = 6 ∨ h = 7 ∨ h = 8 ∨ h = 9 by omega) with rfl | rfl | rfl | rfl
    · have e : eqc A2 (wI (wI A5 1 10 0) 1 11 0) 6 := (((E3 6 (by omega)).tr (E4 6 (by omega))).tr (E5 6 (by omega))).tr (EF 6 (by decide))
      obtain ⟨b0, b1, b2, b3, b4, b5, b6⟩ := a2
      have hp : HUn A2 6 := ⟨⟨6, 2, 1, ⟨by decide, by decide, by decide, b0, b1, b2, by decide +kernel⟩, fun _ => by decide +kernel, fun z => absurd b6 z⟩, by rw [b3]; exact pg_zero, Or.inl b4, Or.inl b5, ⟨0, by decide, b6⟩⟩
      exact hp.congr e
    · exact a3.congr (((E4 7 (by omega)).tr (E5 7 (by omega))).tr (EF 7 (by decide)))
    · exact a4.congr ((E5 8 (by omega)).tr (EF 8 (by decide)))
    · exact a5.congr (EF 9 (by decide))
  · obtain ⟨s1, s2, s3, s4, s5, -⟩ := hs
    have q : ∀ k, k ≠ 10 → k ≠ 11 → gI (wI (wI A5 1 10 0) 1 11 0) 1 k = gI A 1 k := fun k h1 h2 => by rw [gI_wI, if_neg (by omega), gI_wI, if_neg (by omega), E0'.1 k]
    unfold GS
    rw [q 3 (by decide) (by decide), q 6 (by decide) (by decide), q 7 (by decide) (by decide), q 8 (by decide) (by decide), q 9 (by decide) (by decide)]
    exact ⟨s1, s2, s3, s4, s5, ⟨0, by decide, by rw [gI_wI, if_neg (by decide), gI_wI, if_pos (by decide)]; rfl⟩⟩
/-! filling -/
def fillX (A : Mem) : Mem := (fun a b => if a = 3 ∧ b < 117 then planF b else if a = 2 ∧ b = 1 then nI (cntC planF 117) else A.1 a b, A.2)
def fillM (B : Mem) : Mem := (fun a b => if a = 22 ∧ b < 117 then B.1 21 b else B.1 a b, B.2)
theorem pl_nar : ∀ j, j < 117 → vp_nar .byte (planF j) = planF j := by decide +kernel
theorem Mem.ext' {A B : Mem} (h1 : ∀ a b, gI A a b = gI B a b) (h2 : ∀ a b, gF A a b = gF B a b) : A = B := Prod.ext (funext fun a => funext fun b => h1 a b) (funext fun a => funext fun b => h2 a b)
theorem ix117 : ∀ k, k < 117 → vp_in (nI k) 117 ∧ (nI k).toNatClampNeg = k ∧ ¬ 117 ≤ nI k ∧ nI k + 1 = nI (k + 1) ∧ ¬ (nI k : Int32) = 117 := by unfold vp_in; decide +kernel
/-- the state of refill's loop at k -/
def rfK (A : Mem) (k : Nat) : Mem := (fun a b => if a = 3 ∧ b < k then planF b else if a = 2 ∧ b = 1 then nI (cntC planF k) else A.1 a b, A.2)
theorem cnt_s (k : Nat) : (nI (cntC planF k) + if planF k = 2 ∨ planF k = 3 then 1 else 0) = nI (cntC planF (k + 1)) := by
  show _ = nI (cntC planF k + _)
  split
  · exact (nI_1 _)
  · rw [Int32.add_zero, Nat.add_zero]
