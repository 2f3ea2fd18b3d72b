/-! WHAT HOLDS IN EVERY STATE OF THE CLASS -/
def bo (x : Int32) : Prop := x = 0 ∨ x = 1
def plC (c r : Nat) : Int32 := planF (13 * r + c)
def CE (A : Mem) : Prop := ∀ j, j < 117 → gI A 3 j = planF j ∨ (gI A 3 j = 0 ∧ (planF j = 2 ∨ planF j = 3))
def cntC (f : Nat → Int32) : Nat → Nat
  | 0 => 0
  | n + 1 => cntC f n + (if f n = 2 ∨ f n = 3 then 1 else 0)
def LE (A : Mem) : Prop := gI A 2 1 = nI (cntC (gI A 3) 117)
/-- the actor in cell h is at (c, r), which is no wall, and looks to d -/
def atC (A : Mem) (h c r d : Nat) : Prop := c < 13 ∧ r < 9 ∧ d < 4 ∧ gI A h 0 = nI c ∧ gI A h 1 = nI r ∧ gI A h 2 = nI d ∧ plC c r ≠ 1
def nxw (c r d : Nat) : Bool := !outM r d && decide (plC (nc c d) (nr r d) ≠ 1)
def PLy (A : Mem) : Prop := (∃ c r d, atC A 5 c r d) ∧ pg (gF A 5 3) ∧ gI A 5 4 = 0 ∧ gI A 5 5 = 0 ∧ gI A 5 6 = 0
def HUn (A : Mem) (h : Nat) : Prop := (∃ c r d, atC A h c r d ∧ (gI A h 6 = 0 → nxw c r d = true) ∧ (gI A h 6 ≠ 0 → gI A h 5 = 1 ∧ d = 0 ∧ r = 4 ∧ (c = 5 ∨ c = 6 ∨ c = 7))) ∧ pg (gF A h 3) ∧ bo (gI A h 4) ∧ bo (gI A h 5) ∧ inR 121 (gI A h 6)
def GS (N : Nat) (A : Mem) : Prop := bo (gI A 1 3) ∧ (gI A 1 3 = 1 → ∃ k : Nat, 1 ≤ k ∧ k ≤ 4 ∧ gI A 1 6 = nI k ∧ (gI A 1 9 = 0 → k ≤ 3)) ∧ (∃ k : Nat, k ≤ N ∧ gI A 1 7 = nI k) ∧ inR 4 (gI A 1 8) ∧ bo (gI A 1 9) ∧ inR 101 (gI A 1 10)
def GI (N : Nat) (A : Mem) : Prop := CE A ∧ LE A ∧ PLy A ∧ (∀ h, 6 ≤ h → h ≤ 9 → HUn A h) ∧ GS N A
theorem CE.congr {A A' : Mem} (h : CE A) (e : eqc A A' 3) : CE A' := fun j hj => by rw [e.1 j]; exact h j hj
theorem LE.congr {A A' : Mem} (h : LE A) (e : eqc A A' 3) (e2 : gI A' 2 1 = gI A 2 1) : LE A' := by
  unfold LE
  rw [e2, show gI A' 3 = gI A 3 from funext e.1]
  exact h
theorem atC.congr {A A' : Mem} {h c r d : Nat} (x : atC A h c r d) (e : eqc A A' h) : atC A' h c r d := by
  unfold atC
  rw [e.1, e.1, e.1]
  exact x
theorem PLy.congr {A A' : Mem} (h : PLy A) (e : eqc A A' 5) : PLy A' := by
  obtain ⟨⟨c, r, d, x⟩, h2⟩ := h
  refine ⟨⟨c, r, d, x.congr e⟩, ?_⟩
  rw [e.2, e.1, e.1, e.1]
  exact h2
theorem HUn.congr {A A' : Mem} {n : Nat} (h : HUn A n) (e : eqc A A' n) : HUn A' n := by
  obtain ⟨⟨c, r, d, x, y⟩, h2⟩ := h
  refine ⟨⟨c, r, d, x.congr e, ?_⟩, ?_⟩
  · rw [e.1, e.1]; exact y
  · rw [e.2, e.1, e.1, e.1]; exact h2
theorem GS.congr {N : Nat} {A A' : Mem} (h : GS N A) (e : ∀ k, k = 3 ∨ k = 6 ∨ k = 7 ∨ k = 8 ∨ k = 9 ∨ k = 10 → gI A' 1 k = gI A 1 k) : GS N A' := by
  unfold GS
  rw [e 3 (by simp), e 6 (by simp), e 7 (by simp), e 8 (by simp), e 9 (by simp), e 10 (by simp)]
  exact h
/-- a write into the game's own cell that no rule looks at -/
theorem GI.w1 {N : Nat} {A : Mem} {k : Nat} {v : Int32} (h : GI N A) (hk : k = 4 ∨ k = 5 ∨ k = 11 ∨ k = 12 ∨ k = 13 ∨ k = 14 ∨ k = 15) : GI N (wI A 1 k v) := by
  obtain ⟨h1, h2, h3, h4, h5⟩ := h
  refine ⟨h1.congr ((eqc.rf A 3).wI (by decide)), h2.congr ((eqc.rf A 3).wI (by decide)) (by rw [gI_wI, if_neg (by simp)]), h3.congr ((eqc.rf A 5).wI (by decide)), fun n a b => (h4 n a b).congr ((eqc.rf A n).wI (by omega)), h5.congr (fun j hj => ?_)⟩
  rw [gI_wI, if_neg (by omega)]
theorem CE.ne {A : Mem} (h : CE A) : ∀ j, j < 117 → gI A 3 j ≠ -1 := by
  intro j hj
  have hp : ∀ j, j < 117 → planF j ≠ -1 := by decide +kernel
  rcases h j hj with e | ⟨e, -⟩
  · rw [e]; exact hp j hj
  · rw [e]; decide
theorem opn_nxw {A : Mem} (h : CE A) {c r d : Nat} (hc : c < 13) (hr : r < 9) (hd : d < 4) {lv : Int32} (ho : opn A c r d lv ≠ 0) : nxw c r d = true := by
  unfold opn at ho
  have hn := (g_nc c hc d hd).2.2
  rcases (g_nr r hr d hd).2 with ⟨h1, -⟩ | ⟨h1, -, h2⟩
  · rw [if_pos h1] at ho; exact absurd rfl ho
  · rw [if_neg (by rw [h1]; decide)] at ho
    unfold nxw plC
    rw [h1]
    have hj : 13 * nr r d + nc c d < 117 := by omega
    by_cases hw : gI A 3 (13 * nr r d + nc c d) = 1
    · rw [if_pos hw] at ho; exact absurd rfl ho
    · simp only [Bool.not_false, Bool.true_and, decide_eq_true_eq]
      intro e
      rcases h _ hj with q | ⟨-, q | q⟩
      · exact hw (q.trans e)
      · rw [q] at e; exact absurd e (by decide)
      · rw [q] at e; exact absurd e (by decide)
/-- stepping on, and back again -/
theorem g_back0 : ∀ c, c < 13 → ∀ r, r < 9 → ∀ d, d < 4 → plC c r = 1 ∨ nxw c r d = false ∨ (nr r d < 9 ∧ plC (nc c d) (nr r d) ≠ 1 ∧ nxw (nc c d) (nr r d) (bk d) = true) := by decide +kernel
theorem g_back {c r d : Nat} (hc : c < 13) (hr : r < 9) (hd : d < 4) (h1 : plC c r ≠ 1) (h2 : nxw c r d = true) : nr r d < 9 ∧ plC (nc c d) (nr r d) ≠ 1 ∧ nxw (nc c d) (nr r d) (bk d) = true := by
  rcases g_back0 c hc r hr d hd with h | h | h
  · exact absurd h h1
  · rw [h2] at h; cases h
  · exact h
theorem e_place (M : Mem) (h : Nat) (c r d rest : Int32) : sp_X0_place M h c r d rest = wI (wI (wI (wF (wI (wI (wI M h 0 c) h 1 r) h 2 d) h 3 FP.fconst0) h 4 0) h 5 (if rest ≤ 0 then 0 else 1)) h 6 rest := by
  simp only [sp_X0_place_n1, sp_X0_place_n2, sp_X0_place_B36, sp_X0_place_n3, sp_X0_place_n4, sp_X0_place_n5, sp_X0_place_n6, sp_X0_place_n7, sp_X0_place]
  split <;> rfl
theorem e_put (M : Mem) (a : Nat) (ha : a < 5) (c r d rest : Int32) : sp_X7_put M (nI a) c r d rest = wI (wI (wI (wF (wI (wI (wI M 23 a c) 24 a r) 25 a d) 26 a FP.fconst0) 27 a 0) 28 a rest) 29 a (if rest ≤ 0 then 0 else 1) ∧ vc_X7_put M (nI a) c r d rest := by
  have ea : (nI a).toNatClampNeg = a := nI_cl (by omega)
  have rv := (ra_pos a ha).2
  simp only [sp_X7_put_n1, sp_X7_put_B59, sp_X7_put_n2, sp_X7_put_n3, sp_X7_put_n4, sp_X7_put_n5, sp_X7_put_n6, sp_X7_put_n7, sp_X7_put, vc_X7_put_B59, vc_X7_put_n2, vc_X7_put_n3, vc_X7_put_n4, vc_X7_put_n5, vc_X7_put_n6, vc_X7_put_n7, vc_X7_put, ea]
  constructor
  · split <;> rfl
  · simp [rv]
theorem dA {a : Nat} (ha : a < 5) : dI 23 a = true ∧ dI 24 a = true ∧ dI 25 a = true ∧ dI 27 a = true ∧ dI 28 a = true ∧ dI 29 a = true ∧ dI 30 a = true ∧ dI 31 a = true ∧ dF 26 a = true := by
  rcases lt5 ha with rfl | rfl | rfl | rfl | rfl <;> decide
theorem vc_place {M : Mem} {h : Nat} {c r d rest : Int32} : vc_X0_place M h c r d rest := by
  simp only [vc_X0_place_B36, vc_X0_place_n3, vc_X0_place_n4, vc_X0_place_n5, vc_X0_place_n6, vc_X0_place_n7, vc_X0_place]
  simp
theorem P_place {A B : Mem} (hR : Rl A B) {a : Nat} (ha : a < 5) (c r d rest : Int32) : Rl (sp_X0_place A (5 + a) c r d rest) (sp_X7_put B (nI a) c r d rest) := by
  rw [e_place, (e_put B a ha c r d rest).1]
  obtain ⟨d0, d1, d2, d4, d6, d5, -, -, d3⟩ := dA ha
  rw [wI_comm _ _ _ (show ¬ (28 = 29 ∧ a = a) by simp)]
  exact (((((((hR.wi d0 rfl rfl).wi d1 rfl rfl).wi d2 rfl rfl).wf d3 rfl rfl).wi d4 rfl rfl).wi d5 rfl rfl).wi d6 rfl rfl)
theorem place_eqc (M : Mem) (h : Nat) (c r d rest : Int32) (n : Nat) (hn : n ≠ h) : eqc M (sp_X0_place M h c r d rest) n := by
  rw [e_place]
  exact ((((((((eqc.rf M n).wI hn).wI hn).wI hn).wF hn).wI hn).wI hn).wI hn)
theorem place_at (M : Mem) (h : Nat) (c r d rest : Int32) : gI (sp_X0_place M h c r d rest) h 0 = c ∧ gI (sp_X0_place M h c r d rest) h 1 = r ∧ gI (sp_X0_place M h c r d rest) h 2 = d ∧ gF (sp_X0_place M h c r d rest) h 3 = FP.fconst0 ∧ gI (sp_X0_place M h c r d rest) h 4 = 0 ∧ gI (sp_X0_place M h c r d rest) h 5 = (if rest ≤ 0 then 0 else 1) ∧ gI (sp_X0_place M h c r d rest) h 6 = rest := by
  rw [e_place]
  simp [gI_wI, gI_wF, gF_wF, gF_wI]
/-- a hunter that is put back, resting, into the house -/
theorem place_rest (M : Mem) (h c : Nat) (n : Nat) (hc : c = 5 ∨ c = 6 ∨ c = 7) (hn : 0 < n ∧ n < 121) : HUn (sp_X0_place M h (nI c) (nI 4) (nI 0) (nI n)) h := by
  obtain ⟨a0, a1, a2, a3, a4, a5, a6⟩ := place_at M h (nI c) (nI 4) (nI 0) (nI n)
  have hz : ¬ nI n ≤ 0 := nI_nle hn.1 (by omega)
  have hz2 : nI n ≠ 0 := nI_ne0 hn.1 (by omega)
  rw [if_neg hz] at a5
  refine ⟨⟨c, 4, 0, ⟨by omega, by decide, by decide, a0, a1, a2, ?_⟩, fun e => absurd (a6 ▸ e) hz2, fun _ => ⟨a5, rfl, rfl, hc⟩⟩, by rw [a3]; exact pg_zero, Or.inl a4, Or.inr a5, ⟨n, hn.2, a6⟩⟩
  rcases hc with rfl | rfl | rfl <;> decide +kernel
