/-! How both begin. -/
theorem bo_eqc {c : Nat} (hc : c ≠ 21) : ∀ n a1 a2 a3 a4 x (M : Mem), eqc M (sp_X7_both_B3 n a1 a2 a3 a4 x M) c := by
  intro n
  induction n with
  | zero => intro a1 a2 a3 a4 x M; exact eqc.rf M c
  | succ n ih =>
    intro a1 a2 a3 a4 x M
    show eqc M (if (a2 + a3) ≤ x then M else sp_X7_both_B3 n a1 a2 a3 a4 (x + 1) (wI (wI M 21 (((13 * a1) + x).toNatClampNeg) a4) 21 ((((13 * a1) + 12) - x).toNatClampNeg) a4)) c
    split
    · exact eqc.rf M c
    · exact (((eqc.rf M c).wI hc).wI hc).tr (ih _ _ _ _ _ _)
theorem bt_eqc {c : Nat} (hc : c ≠ 21) (M : Mem) (a b d e : Int32) : eqc M (sp_X7_both M a b d e) c := bo_eqc hc 8 a b d e b M
theorem d83_eqc {c : Nat} (hc : c ≠ 21) : ∀ n x (M : Mem), eqc M (sp_X7_draw_B83 n x M) c := by
  intro n
  induction n with
  | zero => intro x M; exact eqc.rf M c
  | succ n ih =>
    intro x M
    show eqc M (if 6 ≤ x then (sp_X7_both (sp_X7_both (sp_X7_both M 3 6 1 4) 4 0 4 2) 4 5 2 4) else (sp_X7_draw_B83 n (x + 2) (sp_X7_both (sp_X7_both M x 1 1 2) x 3 2 2))) c
    split
    · exact ((bt_eqc hc _ _ _ _ _).tr (bt_eqc hc _ _ _ _ _)).tr (bt_eqc hc _ _ _ _ _)
    · exact ((bt_eqc hc _ _ _ _ _).tr (bt_eqc hc _ _ _ _ _)).tr (ih _ _)
theorem d53_eqc {c : Nat} (hc : c ≠ 21) : ∀ n x (M : Mem), eqc M (sp_X7_draw_B53 n x M) c := by
  intro n
  induction n with
  | zero => intro x M; exact eqc.rf M c
  | succ n ih =>
    intro x M
    show eqc M (if 7 ≤ x then (sp_X7_draw_B83 118 3 M) else (sp_X7_draw_B53 n (x + 4) (sp_X7_both (sp_X7_both M x 1 1 2) x 4 3 2))) c
    split
    · exact d83_eqc hc _ _ _
    · exact ((bt_eqc hc _ _ _ _ _).tr (bt_eqc hc _ _ _ _ _)).tr (ih _ _)
theorem d23_eqc {c : Nat} (hc : c ≠ 21) : ∀ n x (M : Mem), eqc M (sp_X7_draw_B23 n x M) c := by
  intro n
  induction n with
  | zero => intro x M; exact eqc.rf M c
  | succ n ih =>
    intro x M
    show eqc M (if 8 ≤ x then (sp_X7_draw_B53 118 2 M) else (sp_X7_draw_B23 n (x + 6) (sp_X7_both (sp_X7_both M x 1 1 3) x 2 4 2))) c
    split
    · exact d53_eqc hc _ _ _
    · exact ((bt_eqc hc _ _ _ _ _).tr (bt_eqc hc _ _ _ _ _)).tr (ih _ _)
theorem d2_eqc {c : Nat} (hc : c ≠ 21) : ∀ n x (M : Mem), eqc M (sp_X7_draw_B2 n x M) c := by
  intro n
  induction n with
  | zero => intro x M; exact eqc.rf M c
  | succ n ih =>
    intro x M
    show eqc M (if 117 ≤ x then (sp_X7_draw_B23 118 1 M) else (sp_X7_draw_B2 n (x + 1) (wI M 21 x.toNatClampNeg 1))) c
    split
    · exact d23_eqc hc _ _ _
    · exact ((eqc.rf M c).wI hc).tr (ih _ _)
theorem dr_plan : ∀ j, j < 117 → gI (sp_X7_draw (wI (wI M00 20 14 1) 20 15 (-1))) 21 j = planF j := by decide +kernel
def P0 : Mem := (fun c k => if c = 21 then planF k else 0, fun _ _ => 0)
theorem dI_21 {c k : Nat} (h : dI c k = true) : c ≠ 21 := by
  rintro rfl
  exact Bool.noConfusion (show false = true from h)
theorem Rl_0 : Rl M00 P0 := by
  refine ⟨fun c k h => ?_, fun c k h => rfl, fun j hj => rfl⟩
  show (if c = 21 then planF k else 0) = 0
  rw [if_neg (dI_21 h)]
theorem Rl.cg {A B B' : Mem} (h : Rl A B) (e : ∀ c, c ≠ 21 → eqc B B' c) (hp : ∀ j, j < 117 → gI B' 21 j = planF j) : Rl A B' := by
  refine ⟨fun c k hd => ((e c (dI_21 hd)).1 k).trans (h.1 c k hd), fun c k hd => ?_, hp⟩
  have hc : c ≠ 21 := by
    rintro rfl
    exact Bool.noConfusion (show false = true from hd)
  exact ((e c hc).2 k).trans (h.2.1 c k hd)
def A00 : Mem := wI (sp_X1_clear M00) 0 3 (-1)
def B00 : Mem := sp_X7_place (sp_X7_fill (sp_X7_draw (wI (wI M00 20 14 1) 20 15 (-1))))
theorem clr_e : sp_X1_clear M00 = sp_X1_placeActors (fillX (wI M00 1 12 1)) := by
  have e : sp_X1_clear M00 = sp_X1_setUp (wI (wI (wI M00 1 3 0) 1 6 0) 1 7 0) := rfl
  rw [e, (e_setUp _).1, wI_id (show gI M00 1 3 = 0 from rfl), wI_id (show gI M00 1 6 = 0 from rfl), wI_id (show gI M00 1 7 = 0 from rfl), wI_id (show gI M00 1 4 = 0 from rfl), wI_id (show gI M00 1 8 = 0 from rfl), wI_id (show gI M00 1 9 = 0 from rfl)]
theorem begin_R : Rl A00 B00 := by
  have h1 : Rl (wI (wI M00 1 12 1) 0 3 (-1)) (wI (wI P0 20 14 1) 20 15 (-1)) := (Rl_0.wi (c := 20) (k := 14) rfl rfl rfl).wi (c := 20) (k := 15) rfl rfl rfl
  have h2 : Rl (wI (wI M00 1 12 1) 0 3 (-1)) (sp_X7_draw (wI (wI M00 20 14 1) 20 15 (-1))) := by
    refine h1.cg (fun c hc => ?_) dr_plan
    have h3 : eqc (wI (wI P0 20 14 1) 20 15 (-1)) (wI (wI M00 20 14 1) 20 15 (-1)) c := by
      refine ⟨fun k => ?_, fun k => rfl⟩
      rw [gI_wI, gI_wI, gI_wI, gI_wI]
      have : gI P0 c k = gI M00 c k := if_neg hc
      rw [this]
    exact h3.tr (d2_eqc hc 118 0 _)
  have h3 := (P_placeActors (P_fill h2)).1
  unfold A00 B00
  rw [clr_e, (e_fill _).1, placeActors_w0, fillX_w0]
  exact h3
theorem begin_I : Inv 0 A00 := by
  have hg : GI 1 (sp_X1_clear M00) := by
    have e : sp_X1_clear M00 = sp_X1_setUp (wI (wI (wI M00 1 3 0) 1 6 0) 1 7 0) := rfl
    rw [e]
    refine G_setUp (Or.inl (by simp [gI_wI])) (fun h => ?_) ⟨0, by decide, by simp [gI_wI]; rfl⟩
    simp [gI_wI] at h
  have e0 := clr_eqc 0 (by omega)
  refine ⟨hg.cg (fun n n1 n9 => (eqc.rf _ n).wI (by omega)), ⟨?_, ?_, ?_, fun v hv => ?_⟩, by decide⟩
  · show inR 10 (gI (wI (sp_X1_clear M00) 0 3 (-1)) 0 2)
    rw [gI_wI, if_neg (by decide), e0.1]
    exact ⟨0, by decide, rfl⟩
  · left
    show gI (wI (sp_X1_clear M00) 0 3 (-1)) 0 3 = -1
    rw [gI_wI, if_pos ⟨rfl, rfl⟩]
  · show gI (wI (sp_X1_clear M00) 0 3 (-1)) 0 5 = nI 0
    rw [gI_wI, if_neg (by decide), e0.1]
    rfl
  · show vl (gF (wI (sp_X1_clear M00) 0 3 (-1)) (12 + v) 2)
    rw [gF_wI, (clr_eqc (12 + v) (by omega)).2]
    exact vl_0
