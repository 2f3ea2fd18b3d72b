/-! What is heard; the watchdog; the call of frames. -/
theorem sx16 (x : Int32) : x.toInt16.toInt32 = (x <<< (16 &&& 31)) >>> (16 &&& 31) := by
  apply Int32.toInt_inj.mp
  have h1 := Jvm.RoadKit.c_i2s x
  have h2 := Jvm.RoadKit.c_ishl x 16 16 (by decide)
  have h3 := Jvm.RoadKit.c_ishr (x <<< (16 &&& 31)) 16 16 (by decide)
  have h4 := Int32.toInt_lt (x <<< (16 &&& 31))
  have h5 := Int32.le_toInt (x <<< (16 &&& 31))
  rw [h3]
  simp only [show ((2 ^ 16 : Nat) : Int) = 65536 from rfl] at *
  omega
theorem i3 : ∀ a, a < 3 → ¬ (3 : Int32) ≤ nI a ∧ nI a + 1 = nI (a + 1) ∧ vp_in (nI a) 3 := by unfold vp_in; decide +kernel
def Kv (A A' : Mem) : Prop := ∀ n, n < 12 → eqc A A' n
theorem Kv.rf (A : Mem) : Kv A A := fun n _ => eqc.rf A n
theorem Kv.tr {A B C : Mem} (h : Kv A B) (h' : Kv B C) : Kv A C := fun n hn => (h n hn).tr (h' n hn)
def paX (A : Mem) (v : Nat) : Mem := wF (wI A (12 + v) 0 ((gI A (12 + v) 0 + gI A (12 + v) 1).toInt16.toInt32)) (12 + v) 2 (FP.fmul (gF A (12 + v) 2) 1063675494)
def paM (B : Mem) (v : Nat) : Mem := wF (wI B 32 v (((gI B 32 v + gI B 33 v) <<< (16 &&& 31)) >>> (16 &&& 31))) 34 v (FP.fmul (gF B 34 v) 1063675494)
theorem P_pa {A B : Mem} (hR : Rl A B) (hV : VO A) {v : Nat} (hv : v < 3) : Rl (paX A v) (paM B v) ∧ VO (paX A v) ∧ Kv A (paX A v) := by
  obtain ⟨d1, d2, d3⟩ := dV hv
  refine ⟨(hR.wi d1 rfl ?_).wf d3 rfl ?_, fun w hw => ?_, fun n hn => ((eqc.rf A n).wI (by omega)).wF (by omega)⟩
  · rw [sx16, hR.1 32 v d1, hR.1 33 v d2]; rfl
  · rw [hR.2.1 34 v d3]; rfl
  · unfold paX
    rw [gF_wF]
    by_cases z : w = v
    · subst z
      rw [if_pos ⟨rfl, rfl⟩]
      exact vl_fade (hV w hw)
    · rw [if_neg (by omega), gF_wI]
      exact hV w hw
theorem e_ring (A : Mem) (h : Nat) (f : UInt32) (x : Int32) : sp_X5_ring A h f x = wI (wF A h 2 f) h 1 x := rfl
theorem P_ring {A B : Mem} (hR : Rl A B) (hV : VO A) {v : Nat} (hv : v < 3) {f : UInt32} (hf : vl f) (x : Int32) : Rl (sp_X5_ring A (12 + v) f x) (sp_X7_voice B (nI v) f x) ∧ vc_X7_voice B (nI v) f x ∧ VO (sp_X5_ring A (12 + v) f x) ∧ Kv A (sp_X5_ring A (12 + v) f x) := by
  obtain ⟨d1, d2, d3⟩ := dV hv
  have ev : (nI v).toNatClampNeg = v := nI_cl (by omega)
  have rv := (i3 v hv).2.2
  refine ⟨?_, ⟨rv, rv⟩, fun w hw => ?_, fun n hn => ((eqc.rf A n).wF (by omega)).wI (by omega)⟩
  · unfold sp_X7_voice sp_X7_voice_n2
    rw [ev]
    exact (hR.wf d3 rfl rfl).wi d2 rfl rfl
  · rw [e_ring, gF_wI, gF_wF]
    by_cases z : w = v
    · subst z
      rw [if_pos ⟨rfl, rfl⟩]; exact hf
    · rw [if_neg (by omega)]; exact hV w hw
theorem P_hum {A B : Mem} (hR : Rl A B) : vc_X1_humPitch A ∧ (∀ X : Int32 → Mem, (if (gI B 20 9) ≤ 0 then (if (sp_X7_scatters B) = 0 then X (300 + (10 * (gI B 20 8))) else X 300) else X 600) = X (sp_X1_humPitch A)) ∧ (∀ X : Int32 → Prop, X (sp_X1_humPitch A) → (if (gI B 20 9) ≤ 0 then (vc_X7_scatters B ∧ (if (sp_X7_scatters B) = 0 then X (300 + (10 * (gI B 20 8))) else X 300)) else X 600)) := by
  obtain ⟨c1, c2, c3, c4⟩ := P_scat hR
  have b9 : gI B 20 9 = gI A 1 10 := hR.1 20 9 rfl
  have b8 : gI B 20 8 = gI A 1 7 := hR.1 20 8 rfl
  unfold vc_X1_humPitch sp_X1_humPitch sp_X1_humPitch_B35
  rw [b9, b8, c1]
  by_cases z : gI A 1 10 ≤ 0
  · simp only [if_pos z]
    by_cases y : sp_X1_isScatter A = 0
    · simp only [if_pos y]
      exact ⟨c3, fun X => trivial, fun X h => ⟨c4, h⟩⟩
    · simp only [if_neg y]
      exact ⟨c3, fun X => trivial, fun X h => ⟨c4, h⟩⟩
  · simp only [if_neg z]
    exact ⟨trivial, fun X => trivial, fun X h => h⟩
theorem P_h85 {A B : Mem} (hR : Rl A B) (hV : VO A) : Rl (sp_X4_playFrame_B85 A) (sp_X7_hear_B137 B) ∧ vc_X7_hear_B137 B ∧ VO (sp_X4_playFrame_B85 A) ∧ Kv A (sp_X4_playFrame_B85 A) := by
  have b : gI B 20 30 = gI A 1 15 := hR.1 20 30 rfl
  unfold sp_X4_playFrame_B85 sp_X7_hear_B137 vc_X7_hear_B137
  rw [b]
  by_cases z : gI A 1 15 = 0
  · simp only [if_pos z]
    exact ⟨hR, trivial, hV, Kv.rf A⟩
  · simp only [if_neg z]
    exact P_ring (v := 2) hR hV (by decide) vl_15 100
theorem P_h64 {A B : Mem} (hR : Rl A B) (hV : VO A) : Rl (sp_X4_playFrame_B64 A) (sp_X7_hear_B120 B) ∧ vc_X7_hear_B120 B ∧ VO (sp_X4_playFrame_B64 A) ∧ Kv A (sp_X4_playFrame_B64 A) := by
  have b : gI B 20 29 = gI A 1 14 := hR.1 20 29 rfl
  unfold sp_X4_playFrame_B64 sp_X7_hear_B120 vc_X7_hear_B120
  rw [b]
  by_cases z : gI A 1 14 = 0
  · simp only [if_pos z]
    exact P_h85 hR hV
  · simp only [if_neg z]
    have r := P_ring (v := 2) hR hV (by decide) vl_15 1500
    have p := P_h85 r.1 r.2.2.1
    exact ⟨p.1, ⟨r.2.1, p.2.1⟩, p.2.2.1, r.2.2.2.tr p.2.2.2⟩
theorem P_h42 {A B : Mem} (hR : Rl A B) (hV : VO A) : Rl (sp_X4_playFrame_B42 A) (sp_X7_hear_B69 B) ∧ vc_X4_playFrame_B42 A ∧ vc_X7_hear_B69 B ∧ VO (sp_X4_playFrame_B42 A) ∧ Kv A (sp_X4_playFrame_B42 A) := by
  have b : gI B 20 3 = gI A 1 3 := hR.1 20 3 rfl
  unfold sp_X4_playFrame_B42 vc_X4_playFrame_B42 sp_X7_hear_B69 vc_X7_hear_B69
  rw [b]
  by_cases z : gI A 1 3 = 0
  · simp only [if_pos z]
    have p := P_h64 hR hV
    exact ⟨p.1, trivial, p.2.1, p.2.2⟩
  · simp only [if_neg z]
    obtain ⟨u1, u2, u3⟩ := P_hum hR
    rw [u2 (fun x => sp_X7_hear_B117 B x)]
    have r := P_ring (v := 1) hR hV (by decide) vl_05 (sp_X1_humPitch A)
    have p := P_h64 r.1 r.2.2.1
    exact ⟨p.1, u1, u3 (fun x => vc_X7_hear_B117 B x) ⟨r.2.1, p.2.1⟩, p.2.2.1, r.2.2.2.tr p.2.2.2⟩
theorem P_hear {A B : Mem} (hR : Rl A B) (hV : VO A) : Rl (sp_X4_playFrame A) (sp_X7_hear B) ∧ vc_X4_playFrame A ∧ vc_X7_hear B ∧ VO (sp_X4_playFrame A) ∧ Kv A (sp_X4_playFrame A) := by
  have sX : ∀ n v M, v < 3 → sp_X4_playFrame_B2 (n + 1) (nI v) M = sp_X4_playFrame_B2 n (nI (v + 1)) (paX M v) ∧ (VO M → vc_X4_playFrame_B2 n (nI (v + 1)) (paX M v) → vc_X4_playFrame_B2 (n + 1) (nI v) M) := by
    intro n v M hv
    obtain ⟨j1, j2, j3⟩ := i3 v hv
    have ev : (nI v).toNatClampNeg = v := nI_cl (by omega)
    constructor
    · rw [show sp_X4_playFrame_B2 (n + 1) (nI v) M = if 3 ≤ nI v then _ else (sp_X4_playFrame_n6 (sp_X4_playFrame_B2 n) (nI v) (sp_X5_passFrame M (12 + (nI v).toNatClampNeg))) from rfl, if_neg j1, ev]
      unfold sp_X4_playFrame_n6 sp_X4_playFrame_n5
      rw [j2]
      rfl
    · intro hV h
      show if 3 ≤ nI v then _ else (vp_in (nI v) 3 ∧ ((vc_X5_passFrame M (12 + (nI v).toNatClampNeg)) ∧ (vc_X4_playFrame_n6 (vc_X4_playFrame_B2 n) (nI v) (sp_X5_passFrame M (12 + (nI v).toNatClampNeg)))))
      rw [if_neg j1, ev]
      unfold vc_X4_playFrame_n6 vc_X4_playFrame_n5
      rw [j2]
      exact ⟨j3, nn_vf (vl_fade (hV v hv)).1, h⟩
  have sM : ∀ n v M, v < 3 → sp_X7_hear_B2 (n + 1) (nI v) M = sp_X7_hear_B2 n (nI (v + 1)) (paM M v) ∧ (vl (gF M 34 v) → vc_X7_hear_B2 n (nI (v + 1)) (paM M v) → vc_X7_hear_B2 (n + 1) (nI v) M) := by
    intro n v M hv
    obtain ⟨j1, j2, j3⟩ := i3 v hv
    have ev : (nI v).toNatClampNeg = v := nI_cl (by omega)
    constructor
    · rw [show sp_X7_hear_B2 (n + 1) (nI v) M = if 3 ≤ nI v then _ else (sp_X7_hear_n7 (sp_X7_hear_B2 n) (nI v) (wI M 32 (nI v).toNatClampNeg ((((gI M 32 (nI v).toNatClampNeg) + (gI M 33 (nI v).toNatClampNeg)) <<< (16 &&& 31)) >>> (16 &&& 31)))) from rfl, if_neg j1]
      unfold sp_X7_hear_n7 sp_X7_hear_n6 sp_X7_hear_n5
      rw [j2, ev]
      rfl
    · intro hV h
      show if 3 ≤ nI v then _ else (vp_in (nI v) 3 ∧ (vp_in (nI v) 3 ∧ (vp_in (nI v) 3 ∧ (vc_X7_hear_n7 (vc_X7_hear_B2 n) (nI v) (wI M 32 (nI v).toNatClampNeg ((((gI M 32 (nI v).toNatClampNeg) + (gI M 33 (nI v).toNatClampNeg)) <<< (16 &&& 31)) >>> (16 &&& 31)))))))
      rw [if_neg j1]
      unfold vc_X7_hear_n7 vc_X7_hear_n6 vc_X7_hear_n5
      rw [j2, ev]
      exact ⟨j3, j3, j3, j3, nn_vf (vl_fade hV).1, j3, h⟩
  have p0 := P_pa (v := 0) hR hV (by decide)
  have p1 := P_pa (v := 1) p0.1 p0.2.1 (by decide)
  have p2 := P_pa (v := 2) p1.1 p1.2.1 (by decide)
  have vB : ∀ {A B : Mem}, Rl A B → VO A → ∀ v, v < 3 → vl (gF B 34 v) := fun hR hV v hv => by
    rw [hR.2.1 34 v (dV hv).2.2]; exact hV v hv
  have eX : sp_X4_playFrame A = sp_X4_playFrame_B2 1 (nI 3) (paX (paX (paX A 0) 1) 2) := by
    show sp_X4_playFrame_B2 4 (nI 0) A = _
    rw [(sX 3 0 A (by decide)).1, (sX 2 1 _ (by decide)).1, (sX 1 2 _ (by decide)).1]
  have eM : sp_X7_hear B = sp_X7_hear_B2 1 (nI 3) (paM (paM (paM B 0) 1) 2) := by
    show sp_X7_hear_B2 4 (nI 0) B = _
    rw [(sM 3 0 B (by decide)).1, (sM 2 1 _ (by decide)).1, (sM 1 2 _ (by decide)).1]
  have wX : vc_X4_playFrame_B2 1 (nI 3) (paX (paX (paX A 0) 1) 2) → vc_X4_playFrame A := fun h =>
    (sX 3 0 A (by decide)).2 hV ((sX 2 1 _ (by decide)).2 p0.2.1 ((sX 1 2 _ (by decide)).2 p1.2.1 h))
  have wM : vc_X7_hear_B2 1 (nI 3) (paM (paM (paM B 0) 1) 2) → vc_X7_hear B := fun h =>
    (sM 3 0 B (by decide)).2 (vB hR hV 0 (by decide)) ((sM 2 1 _ (by decide)).2 (vB p0.1 p0.2.1 1 (by decide)) ((sM 1 2 _ (by decide)).2 (vB p1.1 p1.2.1 2 (by decide)) h))
  rw [eX, eM]
  have kk : Kv A (paX (paX (paX A 0) 1) 2) := (p0.2.2.tr p1.2.2).tr p2.2.2
  have hR3 := p2.1
  have hV3 := p2.2.1
  generalize paX (paX (paX A 0) 1) 2 = A3 at *
  generalize paM (paM (paM B 0) 1) 2 = B3 at *
  have b : gI B3 20 28 = gI A3 1 13 := hR3.1 20 28 rfl
  rw [show sp_X4_playFrame_B2 1 (nI 3) A3 = (if (gI A3 1 13) = 0 then (sp_X4_playFrame_B42 A3) else (sp_X4_playFrame_n4 (sp_X5_ring A3 12 FP.fconst1 900))) from if_pos (by decide), show sp_X7_hear_B2 1 (nI 3) B3 = (if (gI B3 20 28) = 0 then (sp_X7_hear_B69 B3) else (sp_X7_hear_n4 (sp_X7_voice B3 0 FP.fconst1 900))) from if_pos (by decide), b]
  have vX : (if (gI A3 1 13) = 0 then vc_X4_playFrame_B42 A3 else (vc_X4_playFrame_n4 (sp_X5_ring A3 12 FP.fconst1 900))) → vc_X4_playFrame_B2 1 (nI 3) A3 := fun h => by
    show if (3 : Int32) ≤ nI 3 then (if (gI A3 1 13) = 0 then vc_X4_playFrame_B42 A3 else (vc_X4_playFrame_n4 (sp_X5_ring A3 12 FP.fconst1 900))) else _
    rw [if_pos (by decide)]; exact h
  have vM : (if (gI B3 20 28) = 0 then vc_X7_hear_B69 B3 else (vc_X7_voice B3 0 FP.fconst1 900 ∧ (vc_X7_hear_n4 (sp_X7_voice B3 0 FP.fconst1 900)))) → vc_X7_hear_B2 1 (nI 3) B3 := fun h => by
    show if (3 : Int32) ≤ nI 3 then (if (gI B3 20 28) = 0 then vc_X7_hear_B69 B3 else (vc_X7_voice B3 0 FP.fconst1 900 ∧ (vc_X7_hear_n4 (sp_X7_voice B3 0 FP.fconst1 900)))) else _
    rw [if_pos (by decide)]; exact h
  rw [b] at vM
  by_cases z : gI A3 1 13 = 0
  · simp only [if_pos z] at vX vM ⊢
    have p := P_h42 hR3 hV3
    exact ⟨p.1, wX (vX p.2.1), wM (vM p.2.2.1), p.2.2.2.1, kk.tr p.2.2.2.2⟩
  · simp only [if_neg z] at vX vM ⊢
    have r := P_ring (v := 0) hR3 hV3 (by decide) vl_1 900
    have p := P_h42 r.1 r.2.2.1
    exact ⟨p.1, wX (vX p.2.1), wM (vM ⟨r.2.1, p.2.2.1⟩), p.2.2.2.1, kk.tr (r.2.2.2.tr p.2.2.2.2)⟩
