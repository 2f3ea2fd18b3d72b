/-! One hunter's frame. -/
def chK (A A' : Mem) (h : Nat) : Prop := (∀ n, n ≠ h → n ≠ 1 → eqc A A' n) ∧ (∀ k, k ≠ 12 → gI A' 1 k = gI A 1 k) ∧ (∀ k, k ≠ 2 → k ≠ 9 → k ≠ 10 → gI A' h k = gI A h k) ∧ (∀ k, gF A' h k = gF A h k)
theorem opn_congr {A A' : Mem} (e : eqc A A' 3) (c r d : Nat) (lv : Int32) : opn A' c r d lv = opn A c r d lv := by
  unfold opn
  rw [e.1]
theorem rg_r : ∀ r, r < 9 → ∀ k, k < 4 → -20 ≤ (nI r + sp_X7_down (nI k)).toInt ∧ (nI r + sp_X7_down (nI k)).toInt ≤ 40 := by decide +kernel
theorem opn_of {A : Mem} (h : CE A) {c r d : Nat} (hc : c < 13) (hr : r < 9) (hd : d < 4) {lv : Int32} (hl : lv ≠ 0) (ho : nxw c r d = true) : opn A c r d lv ≠ 0 := by
  unfold nxw plC at ho
  simp only [Bool.and_eq_true, Bool.not_eq_true', decide_eq_true_eq] at ho
  obtain ⟨h1, h2⟩ := ho
  have hj : 13 * nr r d + nc c d < 117 := by
    have q1 := (g_nc c hc d hd).2.2
    rcases (g_nr r hr d hd).2 with ⟨z, -⟩ | ⟨-, -, z⟩
    · rw [h1] at z; exact absurd z (by decide)
    · omega
  have hv : gI A 3 (13 * nr r d + nc c d) ≠ 1 := by
    rcases h _ hj with e | ⟨e, -⟩
    · rw [e]; exact h2
    · rw [e]; decide
  unfold opn
  rw [if_neg (by rw [h1]; decide), if_neg hv, if_neg hl]
  split <;> decide
theorem P_choose {A B : Mem} (hR : Rl A B) (hC : CE A) {a c r d p q e c1 r1 : Nat} (h1 : 1 ≤ a) (ha : a < 5) (hc : c < 13) (hr : r < 9) (hd : d < 4) (v0 : gI A (5 + a) 0 = nI c) (v1 : gI A (5 + a) 1 = nI r) (v2 : gI A (5 + a) 2 = nI d)
    (hp : p < 13) (hq : q < 9) (he : e < 4) (p0 : gI A 5 0 = nI p) (p1 : gI A 5 1 = nI q) (p2 : gI A 5 2 = nI e) (hc1 : c1 < 13) (hr1 : r1 < 9) (u0 : gI A 6 0 = nI c1) (u1 : gI A 6 1 = nI r1)
    (hb : nxw c r (bk d) = true ∨ ∃ k, k < 4 ∧ k ≠ bk d ∧ opn A c r k (gI A (5 + a) 5) ≠ 0) :
    ∃ d', d' < 4 ∧ nxw c r d' = true ∧ Rl (sp_X1_chooseDirection A (5 + a) (nI a)) (sp_X7_choose B (nI a)) ∧ vc_X1_chooseDirection A (5 + a) (nI a) ∧ vc_X7_choose B (nI a) ∧ chK A (sp_X1_chooseDirection A (5 + a) (nI a)) (5 + a) ∧ gI (sp_X1_chooseDirection A (5 + a) (nI a)) (5 + a) 2 = nI d' := by
  have ea : (nI a).toNatClampNeg = a := nI_cl (by omega)
  have rv := (ra_pos a ha).2
  obtain ⟨d0, d1, d2, d4, d6, d5, -, -, d3⟩ := dA ha
  have b2 : gI B 25 a = nI d := (hR.1 25 a d2).trans v2
  have b4 : gI B 27 a = gI A (5 + a) 4 := hR.1 27 a d4
  have b0 : gI B 23 a = nI c := (hR.1 23 a d0).trans v0
  have b1 : gI B 24 a = nI r := (hR.1 24 a d1).trans v1
  obtain ⟨bo1, bo2, hbk⟩ := g_bk d hd
  generalize hbb : bk d = b at *
  -- the ways
  have hW : ∃ w0 w1 w2 w3 : Bool, ∀ k, k < 4 → (fw w0 w1 w2 w3 k = true ↔ k ≠ b ∧ opn A c r k (gI A (5 + a) 5) ≠ 0) := by
    refine ⟨decide (0 ≠ b ∧ opn A c r 0 (gI A (5 + a) 5) ≠ 0), decide (1 ≠ b ∧ opn A c r 1 (gI A (5 + a) 5) ≠ 0), decide (2 ≠ b ∧ opn A c r 2 (gI A (5 + a) 5) ≠ 0), decide (3 ≠ b ∧ opn A c r 3 (gI A (5 + a) 5) ≠ 0), fun k hk => ?_⟩
    rcases (show k = 0 ∨ k = 1 ∨ k = 2 ∨ k = 3 by omega) with rfl | rfl | rfl | rfl
    · exact decide_eq_true_iff
    · exact decide_eq_true_iff
    · exact decide_eq_true_iff
    · exact decide_eq_true_iff
  obtain ⟨w0, w1, w2, w3, hW⟩ := hW
  have hbit := mM_bit w0 w1 w2 w3 b hbk
  have hsel := sel_pk w0 w1 w2 w3 b hbk
  generalize fw w0 w1 w2 w3 = W at *
  have hom : ∀ k, k < 4 → sp_X7_open B (nI a) (nI k) = opn A c r k (gI A (5 + a) 5) ∧ vc_X7_open B (nI a) (nI k) := fun k hk => e_open hR ha hc hr hk v0 v1 (fun z => by omega)
  have hWm : ∀ k, k < 4 → (W k = true ↔ k ≠ b ∧ sp_X7_open B (nI a) (nI k) ≠ 0) := fun k hk => by rw [(hom k hk).1]; exact hW k hk
  have key : ∀ k, k < 4 → Wy W b k = true → nxw c r k = true := by
    intro k hk h
    unfold Wy at h
    by_cases z : (W 0 || W 1 || W 2 || W 3) = true
    · rw [if_pos z] at h
      exact opn_nxw hC hc hr hk ((hW k hk).mp h).2
    · rw [if_neg z] at h
      simp only [beq_iff_eq] at h
      subst h
      rcases hb with hb | ⟨k', hk', hb1, hb2⟩
      · exact hb
      · have := (hW k' hk').mpr ⟨hb1, hb2⟩
        exfalso
        apply z
        simp only [Bool.or_eq_true]
        rcases (show k' = 0 ∨ k' = 1 ∨ k' = 2 ∨ k' = 3 by omega) with rfl | rfl | rfl | rfl <;> simp [this]
  have eM : sp_X7_choose B (nI a) = sp_X7_choose_B63 B (nI a) (mM W b) := by
    unfold sp_X7_choose sp_X7_choose_n9
    rw [ea, b2, bo2, way_all hbk hWm]
  have vM : (∀ v, vc_X7_choose_B63 B (nI a) v) → vc_X7_choose B (nI a) := by
    intro h
    unfold vc_X7_choose vc_X7_choose_n9
    rw [ea, b2, bo2]
    exact ⟨rv, wayv_all (fun k hk => (hom k hk).2) h⟩
  rw [eM]
  by_cases af : gI A (5 + a) 4 = 0
  · -- by day: to the aim
    obtain ⟨x, y, q1, q2, q3, q4, q5, q6, q7, q8⟩ := P_aim hR h1 ha hp hq he hc1 hr1 p0 p1 p2 u0 u1
    have g1 : ∀ n k, (n = 5 + a → k ≠ 9 ∧ k ≠ 10) → gI (wI (wI A (5 + a) 9 x) (5 + a) 10 y) n k = gI A n k := fun n k h => by
      rw [gI_wI, if_neg (fun z => (h z.1).2 z.2), gI_wI, if_neg (fun z => (h z.1).1 z.2)]
    have g9 : gI (wI (wI A (5 + a) 9 x) (5 + a) 10 y) (5 + a) 9 = x := by simp [gI_wI]
    have g10 : gI (wI (wI A (5 + a) 9 x) (5 + a) 10 y) (5 + a) 10 = y := by simp [gI_wI]
    have gf : ∀ n k, gF (wI (wI A (5 + a) 9 x) (5 + a) 10 y) n k = gF A n k := fun n k => rfl
    have hR1 : Rl (wI (wI A (5 + a) 9 x) (5 + a) 10 y) B := by
      refine (hR.wx ?_).wx ?_
      · rcases lt5 ha with rfl | rfl | rfl | rfl | rfl <;> rfl
      · rcases lt5 ha with rfl | rfl | rfl | rfl | rfl <;> rfl
    have e1 : ∀ n, n ≠ 5 + a → eqc A (wI (wI A (5 + a) 9 x) (5 + a) 10 y) n := fun n hn => ((eqc.rf A n).wI hn).wI hn
    have eC : sp_X1_chooseDirection A (5 + a) (nI a) = wI (wI (wI A (5 + a) 9 x) (5 + a) 10 y) (5 + a) 2 (sp_X1_nearestToAim (wI (wI A (5 + a) 9 x) (5 + a) 10 y) (5 + a)) := by
      unfold sp_X1_chooseDirection
      rw [if_pos af, q1]
      rfl
    have vC : vc_X1_nearestToAim (wI (wI A (5 + a) 9 x) (5 + a) 10 y) (5 + a) → vc_X1_chooseDirection A (5 + a) (nI a) := by
      intro h
      unfold vc_X1_chooseDirection
      rw [if_pos af]
      refine ⟨q6, ?_⟩
      rw [q1]
      exact h
    rw [eC]
    have hCE1 : CE (wI (wI A (5 + a) 9 x) (5 + a) 10 y) := hC.congr (e1 3 (by omega))
    have e3 := e1 3 (by omega)
    generalize hA1 : wI (wI A (5 + a) 9 x) (5 + a) 10 y = A1 at *
    have w0' : gI A1 (5 + a) 0 = nI c := (g1 _ 0 (fun _ => by decide)).trans v0
    have w1' : gI A1 (5 + a) 1 = nI r := (g1 _ 1 (fun _ => by decide)).trans v1
    have w2' : gI A1 (5 + a) 2 = nI d := (g1 _ 2 (fun _ => by decide)).trans v2
    have w5' : gI A1 (5 + a) 5 = gI A (5 + a) 5 := g1 _ 5 (fun _ => by decide)
    have hoc : ∀ k, k < 4 → sp_X2_isOpen A1 (5 + a) (nI k) = opn A c r k (gI A (5 + a) 5) ∧ vc_X2_isOpen A1 (5 + a) (nI k) := fun k hk => by
      have z := e_isOpen (h := 5 + a) hc hr hk w0' w1' hCE1.ne
      rw [opn_congr e3, w5'] at z
      exact z
    have hWc : ∀ k, k < 4 → (W k = true ↔ k ≠ b ∧ sp_X2_isOpen A1 (5 + a) (nI k) ≠ 0) := fun k hk => by rw [(hoc k hk).1]; exact hW k hk
    have hDc : ∀ k, k < 4 → sp_X6_distance (sp_X6_nextColumn (gI A1 (5 + a) 0) (nI k)) (sp_X6_nextRow (gI A1 (5 + a) 1) (nI k)) (gI A1 (5 + a) 9) (gI A1 (5 + a) 10) = (fun k => sp_X6_distance (nI (nc c k)) (nI r + sp_X7_down (nI k)) x y) k := fun k hk => by
      rw [w0', w1', g9, g10, (g_nc c hc k hk).1, (g_nr r hr k hk).1]
    have hDm : ∀ k, k < 4 → (if gI B 27 (nI a).toNatClampNeg = 0 then sp_X7_distance (sp_X7_nextColumn B (nI a) (nI k)) (sp_X7_nextRow B (nI a) (nI k)) x y else 0) = (fun k => sp_X6_distance (nI (nc c k)) (nI r + sp_X7_down (nI k)) x y) k := fun k hk => by
      rw [ea, b4, if_pos af]
      unfold sp_X7_nextColumn sp_X7_nextRow
      rw [ea, b0, b1, (g_nc c hc k hk).2.1]
      rfl
    have hlt : ∀ k, k < 4 → (fun k => sp_X6_distance (nI (nc c k)) (nI r + sp_X7_down (nI k)) x y) k < 2147483647 := fun k hk =>
      dist_lt (rg_nI (by have := (g_nc c hc k hk).2.2; omega)) (rg_r r hr k hk) q4 q5
    have hbi : ∀ k, k < 4 → ((mM W b >>> (nI k &&& 31)) &&& 1 = 1 ↔ Wy W b k = true) := hbit
    generalize (fun k => sp_X6_distance (nI (nc c k)) (nI r + sp_X7_down (nI k)) x y) = D at *
    obtain ⟨k, hk, wk, ek⟩ := pk_res W D 0 hbk
    have eN : sp_X1_nearestToAim A1 (5 + a) = nI k := by
      unfold sp_X1_nearestToAim sp_X1_nearestToAim_n5
      rw [w2', bo1, near_all hbk hWc hDc, near_pk W D hbk hlt, ek]
    have eB : sp_X7_choose_B63 B (nI a) (mM W b) = wI B 25 a (nI k) := by
      unfold sp_X7_choose_B63
      rw [ea, b4, if_pos af]
      unfold sp_X7_choose_B80 sp_X7_choose_n5 sp_X7_choose_n4
      rw [q2, q3, show sp_X7_choose_B107 6 (nI a) (mM W b) 0 B x y (-1) 0 0 = sp_X7_choose_B107 6 (nI a) (mM W b) (nI 0) B x y (-1) 0 0 from rfl, pk_all (n := 0) (by decide) hbi hDm (by rw [ek]; exact (i4p k hk).2), ek, ea]
    rw [eN, eB]
    refine ⟨k, hk, key k hk wk, hR1.wi d2 rfl rfl, vC ?_, vM fun v => ?_, ⟨fun n hn hn1 => (e1 n hn).wI hn, fun j hj => ?_, fun j j1 j2 j3 => ?_, fun j => ?_⟩, ?_⟩
    · unfold vc_X1_nearestToAim vc_X1_nearestToAim_n5
      rw [w2', bo1]
      exact nearv_all (fun k hk => (hoc k hk).2) _ _
    · unfold vc_X7_choose_B63
      rw [ea, b4, if_pos af]
      refine ⟨rv, q7, ?_⟩
      rw [q2]
      refine ⟨q8, ?_⟩
      rw [q3]
      exact pkv_all (n := 0) (by decide) rv
    · rw [gI_wI, if_neg (by omega)]; exact g1 1 j (fun z => by omega)
    · rw [gI_wI, if_neg (fun z => j1 z.2)]; exact g1 _ j (fun _ => ⟨j2, j3⟩)
    · rw [gF_wI]; exact gf _ j
    · rw [gI_wI, if_pos ⟨rfl, rfl⟩]
  · -- afraid: by a draw
    have b14 : gI B 20 14 = gI A 1 12 := hR.1 20 14 rfl
    have hR1 : Rl (wI A 1 12 (((gI A 1 12) * 1103515245) + 12345)) (wI B 20 14 (((gI A 1 12) * 1103515245) + 12345)) := hR.wi (c := 20) (k := 14) rfl rfl rfl
    have eC : sp_X1_chooseDirection A (5 + a) (nI a) = wI (wI A 1 12 (((gI A 1 12) * 1103515245) + 12345)) (5 + a) 2 (sp_X1_firstOpenFrom (wI A 1 12 (((gI A 1 12) * 1103515245) + 12345)) (((gI (wI A 1 12 (((gI A 1 12) * 1103515245) + 12345)) 1 12) >>> (16 &&& 31)) &&& 3) (5 + a)) := by
      unfold sp_X1_chooseDirection
      rw [if_neg af]
      rfl
    have vC : vc_X1_firstOpenFrom (wI A 1 12 (((gI A 1 12) * 1103515245) + 12345)) (((gI (wI A 1 12 (((gI A 1 12) * 1103515245) + 12345)) 1 12) >>> (16 &&& 31)) &&& 3) (5 + a) → vc_X1_chooseDirection A (5 + a) (nI a) := by
      intro h
      unfold vc_X1_chooseDirection
      rw [if_neg af]
      exact h
    rw [eC]
    have e1 : ∀ n, n ≠ 1 → eqc A (wI A 1 12 (((gI A 1 12) * 1103515245) + 12345)) n := fun n hn => (eqc.rf A n).wI hn
    have g12 : ∀ j, j ≠ 12 → gI (wI A 1 12 (((gI A 1 12) * 1103515245) + 12345)) 1 j = gI A 1 j := fun j hj => by rw [gI_wI, if_neg (fun z => hj z.2)]
    have eB0 : sp_X7_choose_B63 B (nI a) (mM W b) = sp_X7_choose_B80 (nI a) (mM W b) (((gI (wI B 20 14 (((gI A 1 12) * 1103515245) + 12345)) 20 14) >>> (16 &&& 31)) &&& 3) (wI B 20 14 (((gI A 1 12) * 1103515245) + 12345)) := by
      unfold sp_X7_choose_B63
      rw [ea, b4, if_neg af]
      unfold sp_X7_drawn sp_X7_drawn_n1
      rw [b14]
      rfl
    have vB0 : ∀ v, vc_X7_choose_B80 (nI a) v (((gI (wI B 20 14 (((gI A 1 12) * 1103515245) + 12345)) 20 14) >>> (16 &&& 31)) &&& 3) (wI B 20 14 (((gI A 1 12) * 1103515245) + 12345)) → vc_X7_choose_B63 B (nI a) v := by
      intro v h
      unfold vc_X7_choose_B63
      rw [ea, b4, if_neg af]
      refine ⟨rv, ?_⟩
      unfold sp_X7_drawn sp_X7_drawn_n1
      rw [b14]
      exact h
    have d12 : gI (wI B 20 14 (((gI A 1 12) * 1103515245) + 12345)) 20 14 = gI (wI A 1 12 (((gI A 1 12) * 1103515245) + 12345)) 1 12 := hR1.1 20 14 rfl
    rw [eB0]
    rw [d12] at vB0 ⊢
    obtain ⟨n, hn, en⟩ := and3 ((gI (wI A 1 12 (((gI A 1 12) * 1103515245) + 12345)) 1 12) >>> (16 &&& 31))
    rw [en] at vC vB0 ⊢
    generalize (wI B 20 14 (((gI A 1 12) * 1103515245) + 12345)) = B1 at *
    generalize hA1 : (wI A 1 12 (((gI A 1 12) * 1103515245) + 12345)) = A1 at *
    have ea5 := e1 (5 + a) (by omega)
    have w0' : gI A1 (5 + a) 0 = nI c := (ea5.1 0).trans v0
    have w1' : gI A1 (5 + a) 1 = nI r := (ea5.1 1).trans v1
    have w2' : gI A1 (5 + a) 2 = nI d := (ea5.1 2).trans v2
    have w5' : gI A1 (5 + a) 5 = gI A (5 + a) 5 := ea5.1 5
    have e3 := e1 3 (by omega)
    have hoc : ∀ k, k < 4 → sp_X2_isOpen A1 (5 + a) (nI k) = opn A c r k (gI A (5 + a) 5) ∧ vc_X2_isOpen A1 (5 + a) (nI k) := fun k hk => by
      have z := e_isOpen (h := 5 + a) hc hr hk w0' w1' (hC.congr e3).ne
      rw [opn_congr e3, w5'] at z
      exact z
    have hWc : ∀ k, k < 4 → (W k = true ↔ k ≠ b ∧ sp_X2_isOpen A1 (5 + a) (nI k) ≠ 0) := fun k hk => by rw [(hoc k hk).1]; exact hW k hk
    have b4' : gI B1 27 a = gI A (5 + a) 4 := (hR1.1 27 a d4).trans (ea5.1 4)
    obtain ⟨x, y, q1, q2, q3, q4, q5, q6, q7, q8⟩ := P_aim hR1 h1 ha hp hq he hc1 hr1 (((e1 5 (by decide)).1 0).trans p0) (((e1 5 (by decide)).1 1).trans p1) (((e1 5 (by decide)).1 2).trans p2) (((e1 6 (by decide)).1 0).trans u0) (((e1 6 (by decide)).1 1).trans u1)
    have hDm : ∀ k, k < 4 → (if gI B1 27 (nI a).toNatClampNeg = 0 then sp_X7_distance (sp_X7_nextColumn B1 (nI a) (nI k)) (sp_X7_nextRow B1 (nI a) (nI k)) x y else 0) = (fun _ => (0 : Int32)) k := fun k hk => by
      rw [ea, b4', if_neg af]
    obtain ⟨k, hk, wk, ek⟩ := pk_res W (fun _ => 0) n hbk
    have hbi : ∀ k, k < 4 → ((mM W b >>> (nI k &&& 31)) &&& 1 = 1 ↔ Wy W b k = true) := hbit
    have eN : sp_X1_firstOpenFrom A1 (nI n) (5 + a) = nI k := by
      unfold sp_X1_firstOpenFrom sp_X1_firstOpenFrom_n3
      rw [w2', bo1, sel_all hn hbk hWc, hsel n hn, ek]
    have eB : sp_X7_choose_B80 (nI a) (mM W b) (nI n) B1 = wI B1 25 a (nI k) := by
      unfold sp_X7_choose_B80 sp_X7_choose_n5 sp_X7_choose_n4
      rw [q2, q3, pk_all hn hbi hDm (by rw [ek]; exact (i4p k hk).2), ek, ea]
    rw [eN, eB]
    refine ⟨k, hk, key k hk wk, hR1.wi d2 rfl rfl, vC ?_, vM fun v => vB0 v ?_, ⟨fun m hm hm1 => (e1 m hm1).wI hm, fun j hj => ?_, fun j j1 j2 j3 => ?_, fun j => ?_⟩, ?_⟩
    · unfold vc_X1_firstOpenFrom vc_X1_firstOpenFrom_n3
      rw [w2', bo1]
      exact selv_all hn (fun k hk => (hoc k hk).2)
    · refine ⟨q7, ?_⟩
      rw [q2]
      refine ⟨q8, ?_⟩
      rw [q3]
      exact pkv_all hn rv
    · rw [gI_wI, if_neg (by omega)]; exact g12 j hj
    · rw [gI_wI, if_neg (fun z => j1 z.2)]; exact ea5.1 j
    · rw [gF_wI]; exact ea5.2 j
    · rw [gI_wI, if_pos ⟨rfl, rfl⟩]
