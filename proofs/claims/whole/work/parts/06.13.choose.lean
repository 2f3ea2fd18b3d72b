/-! The way that a hunter chooses: pure functions over the four ways, and both programs' loops as those functions. -/
def fw (a b c d : Bool) (k : Nat) : Bool := if k = 0 then a else if k = 1 then b else if k = 2 then c else d
def Wy (w : Nat → Bool) (b k : Nat) : Bool := if (w 0 || w 1 || w 2 || w 3) = true then w k else k == b
def sM (i : Nat) (x : Bool) (m : Int32) : Int32 := if x = true then m ||| (1 <<< (nI i &&& 31)) else m
def fM (b : Nat) (m : Int32) : Int32 := if m = 0 then 1 <<< (nI b &&& 31) else m
def mM (w : Nat → Bool) (b : Nat) : Int32 := fM b (sM 3 (w 3) (sM 2 (w 2) (sM 1 (w 1) (sM 0 (w 0) 0))))
theorem mM_bit : ∀ w0 w1 w2 w3 : Bool, ∀ b, b < 4 → ∀ k, k < 4 → (((mM (fw w0 w1 w2 w3) b >>> (nI k &&& 31)) &&& 1 = 1) ↔ Wy (fw w0 w1 w2 w3) b k = true) := by decide +kernel
def nS (x : Bool) (g : Int32) (k : Nat) (s : Int32 × Int32) : Int32 × Int32 := if x = true then (if s.2 ≤ g then s else (nI k, g)) else s
def pS (x : Bool) (g : Int32) (k : Nat) (s : Int32 × Int32) : Int32 × Int32 := if x = true then (if s.1 < 0 then (nI k, g) else if s.2 ≤ g then s else (nI k, g)) else s
def sel (w : Nat → Bool) (n b : Nat) : Int32 := if w ((n + 0) % 4) = true then nI ((n + 0) % 4) else if w ((n + 1) % 4) = true then nI ((n + 1) % 4) else if w ((n + 2) % 4) = true then nI ((n + 2) % 4) else if w ((n + 3) % 4) = true then nI ((n + 3) % 4) else nI b
def pk (w : Nat → Bool) (D : Nat → Int32) (n : Nat) : Int32 × Int32 := pS (w ((n + 3) % 4)) (D ((n + 3) % 4)) ((n + 3) % 4) (pS (w ((n + 2) % 4)) (D ((n + 2) % 4)) ((n + 2) % 4) (pS (w ((n + 1) % 4)) (D ((n + 1) % 4)) ((n + 1) % 4) (pS (w ((n + 0) % 4)) (D ((n + 0) % 4)) ((n + 0) % 4) (-1, 0))))
def nr4 (w : Nat → Bool) (D : Nat → Int32) (b : Nat) : Int32 × Int32 := nS (w 3) (D 3) 3 (nS (w 2) (D 2) 2 (nS (w 1) (D 1) 1 (nS (w 0) (D 0) 0 (nI b, 2147483647))))
theorem sel_pk : ∀ w0 w1 w2 w3 : Bool, ∀ b, b < 4 → ∀ n, n < 4 → sel (fw w0 w1 w2 w3) n b = (pk (Wy (fw w0 w1 w2 w3) b) (fun _ => 0) n).1 := by decide +kernel
theorem i4p : ∀ k, k < 4 → 0 ≤ nI k ∧ ¬ nI k < 0 := by decide +kernel
def pI (w : Nat → Bool) (s : Int32 × Int32) : Prop := s.1 = -1 ∨ ∃ k, k < 4 ∧ w k = true ∧ s.1 = nI k
theorem pS_inv {w : Nat → Bool} {g : Int32} {k : Nat} {s : Int32 × Int32} (hk : k < 4) (h : pI w s) : pI w (pS (w k) g k s) := by
  unfold pS
  split
  · rename_i hw
    split
    · exact Or.inr ⟨k, hk, hw, rfl⟩
    · split
      · exact h
      · exact Or.inr ⟨k, hk, hw, rfl⟩
  · exact h
theorem pS_keep {x : Bool} {g : Int32} {k : Nat} {s : Int32 × Int32} (hk : k < 4) (h : ¬ s.1 < 0) : ¬ (pS x g k s).1 < 0 := by
  unfold pS
  by_cases hx : x = true
  · rw [if_pos hx, if_neg h]
    by_cases q : s.2 ≤ g
    · rw [if_pos q]; exact h
    · rw [if_neg q]; exact (i4p k hk).2
  · rw [if_neg hx]; exact h
theorem pS_got {x : Bool} {g : Int32} {k : Nat} {s : Int32 × Int32} (hk : k < 4) (hx : x = true) : ¬ (pS x g k s).1 < 0 := by
  unfold pS
  rw [if_pos hx]
  split
  · exact (i4p k hk).2
  · rename_i h
    split
    · exact h
    · exact (i4p k hk).2
theorem pk_inv (w : Nat → Bool) (D : Nat → Int32) (n : Nat) : pI w (pk w D n) := by
  unfold pk
  exact pS_inv (Nat.mod_lt _ (by decide)) (pS_inv (Nat.mod_lt _ (by decide)) (pS_inv (Nat.mod_lt _ (by decide)) (pS_inv (Nat.mod_lt _ (by decide)) (Or.inl rfl))))
theorem pk_got {w : Nat → Bool} {D : Nat → Int32} {n k : Nat} (hk : k < 4) (hw : w k = true) : ¬ (pk w D n).1 < 0 := by
  unfold pk
  have m : ∀ i, (n + i) % 4 < 4 := fun i => Nat.mod_lt _ (by decide)
  rcases (show k = (n + 0) % 4 ∨ k = (n + 1) % 4 ∨ k = (n + 2) % 4 ∨ k = (n + 3) % 4 by omega) with h | h | h | h
  · exact pS_keep (m 3) (pS_keep (m 2) (pS_keep (m 1) (pS_got (m 0) (h ▸ hw))))
  · exact pS_keep (m 3) (pS_keep (m 2) (pS_got (m 1) (h ▸ hw)))
  · exact pS_keep (m 3) (pS_got (m 2) (h ▸ hw))
  · exact pS_got (m 3) (h ▸ hw)
theorem Wy_ex (w : Nat → Bool) {b : Nat} (hb : b < 4) : ∃ k, k < 4 ∧ Wy w b k = true := by
  unfold Wy
  by_cases h : (w 0 || w 1 || w 2 || w 3) = true
  · simp only [if_pos h]
    simp only [Bool.or_eq_true] at h
    rcases h with ((h | h) | h) | h
    · exact ⟨0, by decide, h⟩
    · exact ⟨1, by decide, h⟩
    · exact ⟨2, by decide, h⟩
    · exact ⟨3, by decide, h⟩
  · simp only [if_neg h]
    exact ⟨b, hb, by simp⟩
theorem pk_res (w : Nat → Bool) (D : Nat → Int32) (n : Nat) {b : Nat} (hb : b < 4) : ∃ k, k < 4 ∧ Wy w b k = true ∧ (pk (Wy w b) D n).1 = nI k := by
  obtain ⟨k, hk, hw⟩ := Wy_ex w hb
  have h := pk_got (D := D) (n := n) hk hw
  rcases pk_inv (Wy w b) D n with e | e
  · rw [e] at h
    exact absurd (by decide) h
  · exact e
def nR (s t : Int32 × Int32) : Prop := (s.2 = 2147483647 ∧ t.1 = -1) ∨ (s = t ∧ ¬ t.1 < 0)
theorem nR_step {x : Bool} {g : Int32} {k : Nat} {s t : Int32 × Int32} (hk : k < 4) (hg : g < 2147483647) (h : nR s t) : nR (nS x g k s) (pS x g k t) := by
  unfold nS pS
  by_cases hx : x = true
  · rw [if_pos hx, if_pos hx]
    rcases h with ⟨h1, h2⟩ | ⟨h1, h2⟩
    · rw [h1, h2, if_neg (Int32.not_le.mpr hg), if_pos (by decide)]
      exact Or.inr ⟨rfl, (i4p k hk).2⟩
    · subst h1
      rw [if_neg h2]
      by_cases q : s.2 ≤ g
      · rw [if_pos q]; exact Or.inr ⟨rfl, h2⟩
      · rw [if_neg q]; exact Or.inr ⟨rfl, (i4p k hk).2⟩
  · rw [if_neg hx, if_neg hx]
    exact h
theorem near_pk (w : Nat → Bool) (D : Nat → Int32) {b : Nat} (hb : b < 4) (hD : ∀ k, k < 4 → D k < 2147483647) : (nr4 w D b).1 = (pk (Wy w b) D 0).1 := by
  by_cases h : (w 0 || w 1 || w 2 || w 3) = true
  · have e : Wy w b = w := funext fun k => by unfold Wy; rw [if_pos h]
    obtain ⟨k, hk, hw⟩ := Wy_ex w hb
    rw [e] at hw ⊢
    have q := pk_got (D := D) (n := 0) hk hw
    have z : nR (nr4 w D b) (pk w D 0) := nR_step (by decide) (hD 3 (by decide)) (nR_step (by decide) (hD 2 (by decide)) (nR_step (by decide) (hD 1 (by decide)) (nR_step (by decide) (hD 0 (by decide)) (Or.inl ⟨rfl, rfl⟩))))
    rcases z with ⟨-, z⟩ | ⟨z, -⟩
    · rw [z] at q
      exact absurd (by decide) q
    · rw [z]
  · obtain ⟨k, hk, hw, e⟩ := pk_res w D 0 hb
    rw [e]
    unfold Wy at hw
    rw [if_neg h] at hw
    simp only [Bool.or_eq_true, not_or] at h
    obtain ⟨⟨⟨h0, h1⟩, h2⟩, h3⟩ := h
    unfold nr4 nS
    rw [if_neg h3, if_neg h2, if_neg h1, if_neg h0]
    simp only [beq_iff_eq] at hw
    rw [hw]
theorem st4 : ∀ i, i < 4 → ¬ 4 ≤ nI i ∧ nI i + 1 = nI (i + 1) := by decide +kernel
theorem md4 : ∀ n, n < 4 → ∀ i, i < 4 → (nI n + nI i) - (nI n + nI i) / 4 * 4 = nI ((n + i) % 4) ∧ (nI n + nI i) &&& 3 = nI ((n + i) % 4) := by decide +kernel
theorem and3 (y : Int32) : ∃ n, n < 4 ∧ y &&& 3 = nI n := by
  refine ⟨y.toBitVec.toNat % 4, Nat.mod_lt _ (by decide), ?_⟩
  apply Int32.toBitVec_inj.mp
  apply BitVec.eq_of_toNat_eq
  rw [Int32.toBitVec_and, BitVec.toNat_and, show (3 : Int32).toBitVec.toNat = 2 ^ 2 - 1 from rfl, Nat.and_two_pow_sub_one_eq_mod]
  show _ = (BitVec.ofNat 32 (y.toBitVec.toNat % 4)).toNat
  rw [BitVec.toNat_ofNat]
  omega
/-! the class's two loops -/
theorem sel_step {M : Mem} {h n i b m : Nat} {w : Nat → Bool} (hn : n < 4) (hi : i < 4) (hb : b < 4) (hw : ∀ k, k < 4 → (w k = true ↔ k ≠ b ∧ sp_X2_isOpen M h (nI k) ≠ 0)) :
    sp_X1_firstOpenFrom_B11 (m + 1) M (nI n) h (nI b) (nI i) = if w ((n + i) % 4) = true then nI ((n + i) % 4) else sp_X1_firstOpenFrom_B11 m M (nI n) h (nI b) (nI (i + 1)) := by
  have hk : (n + i) % 4 < 4 := Nat.mod_lt _ (by decide)
  rw [show sp_X1_firstOpenFrom_B11 (m + 1) M (nI n) h (nI b) (nI i) = if 4 ≤ nI i then nI b else (sp_X1_firstOpenFrom_n2 (sp_X1_firstOpenFrom_B11 m) M (nI n) h (nI b) (nI i) ((nI n + nI i) - (nI n + nI i) / 4 * 4)) from rfl, if_neg (st4 i hi).1, (md4 n hn i hi).1]
  unfold sp_X1_firstOpenFrom_n2 sp_X1_firstOpenFrom_B47 sp_X1_firstOpenFrom_n1
  rw [(st4 i hi).2]
  by_cases z : w ((n + i) % 4) = true
  · obtain ⟨z1, z2⟩ := (hw _ hk).mp z
    rw [if_pos z, if_neg (fun y => z1 ((nI_eq (by omega) (by omega)).mp y)), if_neg z2]
  · rw [if_neg z]
    by_cases z1 : (n + i) % 4 = b
    · rw [if_pos (by rw [z1])]
    · rw [if_neg (fun y => z1 ((nI_eq (by omega) (by omega)).mp y)), if_pos (Classical.byContradiction fun y => z ((hw _ hk).mpr ⟨z1, y⟩))]
theorem sel_all {M : Mem} {h n b : Nat} {w : Nat → Bool} (hn : n < 4) (hb : b < 4) (hw : ∀ k, k < 4 → (w k = true ↔ k ≠ b ∧ sp_X2_isOpen M h (nI k) ≠ 0)) : sp_X1_firstOpenFrom_B11 6 M (nI n) h (nI b) 0 = sel w n b := by
  rw [show (0 : Int32) = nI 0 from rfl, sel_step hn (by decide) hb hw, sel_step hn (by decide) hb hw, sel_step hn (by decide) hb hw, sel_step hn (by decide) hb hw]
  rfl
theorem selv_step {M : Mem} {h n i b m : Nat} (hn : n < 4) (hi : i < 4) (hv : ∀ k, k < 4 → vc_X2_isOpen M h (nI k)) (hm : vc_X1_firstOpenFrom_B11 m M (nI n) h (nI b) (nI (i + 1))) : vc_X1_firstOpenFrom_B11 (m + 1) M (nI n) h (nI b) (nI i) := by
  have hk : (n + i) % 4 < 4 := Nat.mod_lt _ (by decide)
  show if 4 ≤ nI i then True else (vc_X1_firstOpenFrom_n2 (vc_X1_firstOpenFrom_B11 m) M (nI n) h (nI b) (nI i) ((nI n + nI i) - (nI n + nI i) / 4 * 4))
  rw [if_neg (st4 i hi).1, (md4 n hn i hi).1]
  unfold vc_X1_firstOpenFrom_n2 vc_X1_firstOpenFrom_B47 vc_X1_firstOpenFrom_n1
  rw [(st4 i hi).2]
  split
  · exact hm
  · refine ⟨hv _ hk, ?_⟩
    split
    · exact hm
    · trivial
theorem selv_all {M : Mem} {h n b : Nat} (hn : n < 4) (hv : ∀ k, k < 4 → vc_X2_isOpen M h (nI k)) : vc_X1_firstOpenFrom_B11 6 M (nI n) h (nI b) 0 :=
  selv_step (i := 0) hn (by decide) hv (selv_step (i := 1) hn (by decide) hv (selv_step (i := 2) hn (by decide) hv (selv_step (i := 3) hn (by decide) hv (by
    show if (4 : Int32) ≤ nI 4 then True else _
    rw [if_pos (by decide)]; trivial))))
theorem near_step {M : Mem} {h i b m : Nat} {w : Nat → Bool} {D : Nat → Int32} {s : Int32 × Int32} (hi : i < 4) (hb : b < 4) (hw : ∀ k, k < 4 → (w k = true ↔ k ≠ b ∧ sp_X2_isOpen M h (nI k) ≠ 0)) (hD : ∀ k, k < 4 → sp_X6_distance (sp_X6_nextColumn (gI M h 0) (nI k)) (sp_X6_nextRow (gI M h 1) (nI k)) (gI M h 9) (gI M h 10) = D k) :
    sp_X1_nearestToAim_B17 (m + 1) M h (nI b) s.1 s.2 (nI i) = sp_X1_nearestToAim_B17 m M h (nI b) (nS (w i) (D i) i s).1 (nS (w i) (D i) i s).2 (nI (i + 1)) := by
  rw [show sp_X1_nearestToAim_B17 (m + 1) M h (nI b) s.1 s.2 (nI i) = if 4 ≤ nI i then s.1 else (if nI i = nI b then (sp_X1_nearestToAim_B98 (sp_X1_nearestToAim_B17 m) M h (nI b) (nI i) s.1 s.2) else (if (sp_X2_isOpen M h (nI i)) = 0 then (sp_X1_nearestToAim_B98 (sp_X1_nearestToAim_B17 m) M h (nI b) (nI i) s.1 s.2) else (sp_X1_nearestToAim_n4 (sp_X1_nearestToAim_B17 m) M h (nI b) s.1 s.2 (nI i) (sp_X6_nextColumn (gI M h 0) (nI i))))) from rfl, if_neg (st4 i hi).1]
  unfold sp_X1_nearestToAim_n4 sp_X1_nearestToAim_n3 sp_X1_nearestToAim_n2 sp_X1_nearestToAim_B98 sp_X1_nearestToAim_n1
  rw [(st4 i hi).2, hD i hi]
  unfold nS
  by_cases z : w i = true
  · obtain ⟨z1, z2⟩ := (hw i hi).mp z
    rw [if_pos z, if_neg (fun y => z1 ((nI_eq (by omega) (by omega)).mp y)), if_neg z2]
    by_cases q : s.2 ≤ D i
    · rw [if_pos q, if_pos q]
    · rw [if_neg q, if_neg q]
  · rw [if_neg z]
    by_cases z1 : i = b
    · rw [if_pos (by rw [z1])]
    · rw [if_neg (fun y => z1 ((nI_eq (by omega) (by omega)).mp y)), if_pos (Classical.byContradiction fun y => z ((hw i hi).mpr ⟨z1, y⟩))]
theorem near_all {M : Mem} {h b : Nat} {w : Nat → Bool} {D : Nat → Int32} (hb : b < 4) (hw : ∀ k, k < 4 → (w k = true ↔ k ≠ b ∧ sp_X2_isOpen M h (nI k) ≠ 0)) (hD : ∀ k, k < 4 → sp_X6_distance (sp_X6_nextColumn (gI M h 0) (nI k)) (sp_X6_nextRow (gI M h 1) (nI k)) (gI M h 9) (gI M h 10) = D k) :
    sp_X1_nearestToAim_B17 6 M h (nI b) (nI b) 2147483647 0 = (nr4 w D b).1 := by
  have e := near_step (m := 5) (i := 0) (s := (nI b, 2147483647)) (by decide) hb hw hD
  rw [show (0 : Int32) = nI 0 from rfl]
  refine e.trans ?_
  rw [near_step (m := 4) (i := 1) (by decide) hb hw hD, near_step (m := 3) (i := 2) (by decide) hb hw hD, near_step (m := 2) (i := 3) (by decide) hb hw hD]
  rfl
theorem nearv_step {M : Mem} {h i b m : Nat} (hi : i < 4) (hv : ∀ k, k < 4 → vc_X2_isOpen M h (nI k)) (hm : ∀ x y, vc_X1_nearestToAim_B17 m M h (nI b) x y (nI (i + 1))) (x y : Int32) : vc_X1_nearestToAim_B17 (m + 1) M h (nI b) x y (nI i) := by
  show if 4 ≤ nI i then True else (if nI i = nI b then vc_X1_nearestToAim_B98 (vc_X1_nearestToAim_B17 m) M h (nI b) (nI i) x y else (vc_X2_isOpen M h (nI i) ∧ (if (sp_X2_isOpen M h (nI i)) = 0 then vc_X1_nearestToAim_B98 (vc_X1_nearestToAim_B17 m) M h (nI b) (nI i) x y else (vc_X1_nearestToAim_n4 (vc_X1_nearestToAim_B17 m) M h (nI b) x y (nI i) (sp_X6_nextColumn (gI M h 0) (nI i))))))
  rw [if_neg (st4 i hi).1]
  unfold vc_X1_nearestToAim_n4 vc_X1_nearestToAim_n3 vc_X1_nearestToAim_n2 vc_X1_nearestToAim_B98 vc_X1_nearestToAim_n1
  rw [(st4 i hi).2]
  split
  · exact hm _ _
  · refine ⟨hv _ hi, ?_⟩
    split
    · exact hm _ _
    · split
      · exact hm _ _
      · exact hm _ _
theorem nearv_all {M : Mem} {h b : Nat} (hv : ∀ k, k < 4 → vc_X2_isOpen M h (nI k)) (x y : Int32) : vc_X1_nearestToAim_B17 6 M h (nI b) x y 0 :=
  nearv_step (i := 0) (by decide) hv (nearv_step (i := 1) (by decide) hv (nearv_step (i := 2) (by decide) hv (nearv_step (i := 3) (by decide) hv (fun x y => by
    show if (4 : Int32) ≤ nI 4 then True else _
    rw [if_pos (by decide)]; trivial)))) x y
/-! the model's two loops -/
theorem way_step {M : Mem} {a i b m : Nat} {w : Nat → Bool} {v : Int32} (hi : i < 4) (hb : b < 4) (hw : ∀ k, k < 4 → (w k = true ↔ k ≠ b ∧ sp_X7_open M (nI a) (nI k) ≠ 0)) :
    sp_X7_choose_B16 (m + 1) M (nI a) (nI b) v (nI i) = sp_X7_choose_B16 m M (nI a) (nI b) (sM i (w i) v) (nI (i + 1)) := by
  rw [show sp_X7_choose_B16 (m + 1) M (nI a) (nI b) v (nI i) = if 4 ≤ nI i then (if v = 0 then (sp_X7_choose_n8 M (nI a) (1 <<< (nI b &&& 31))) else (sp_X7_choose_B63 M (nI a) v)) else (if nI i = nI b then (sp_X7_choose_B47 (sp_X7_choose_B16 m) M (nI a) (nI b) v (nI i)) else (if (sp_X7_open M (nI a) (nI i)) = 0 then (sp_X7_choose_B47 (sp_X7_choose_B16 m) M (nI a) (nI b) v (nI i)) else (sp_X7_choose_B48 (sp_X7_choose_B16 m) M (nI a) (nI b) (nI i) (v ||| (1 <<< (nI i &&& 31)))))) from rfl, if_neg (st4 i hi).1]
  unfold sp_X7_choose_B47 sp_X7_choose_B48 sp_X7_choose_n7
  rw [(st4 i hi).2]
  unfold sM
  by_cases z : w i = true
  · obtain ⟨z1, z2⟩ := (hw i hi).mp z
    rw [if_pos z, if_neg (fun y => z1 ((nI_eq (by omega) (by omega)).mp y)), if_neg z2]
  · rw [if_neg z]
    by_cases z1 : i = b
    · rw [if_pos (by rw [z1])]
    · rw [if_neg (fun y => z1 ((nI_eq (by omega) (by omega)).mp y)), if_pos (Classical.byContradiction fun y => z ((hw i hi).mpr ⟨z1, y⟩))]
theorem way_all {M : Mem} {a b : Nat} {w : Nat → Bool} (hb : b < 4) (hw : ∀ k, k < 4 → (w k = true ↔ k ≠ b ∧ sp_X7_open M (nI a) (nI k) ≠ 0)) :
    sp_X7_choose_B16 6 M (nI a) (nI b) 0 0 = sp_X7_choose_B63 M (nI a) (mM w b) := by
  have e := way_step (m := 5) (i := 0) (v := 0) (by decide) hb hw
  rw [show sp_X7_choose_B16 6 M (nI a) (nI b) 0 0 = sp_X7_choose_B16 6 M (nI a) (nI b) 0 (nI 0) from rfl, e, way_step (m := 4) (i := 1) (by decide) hb hw, way_step (m := 3) (i := 2) (by decide) hb hw, way_step (m := 2) (i := 3) (by decide) hb hw]
  unfold mM
  generalize sM 3 (w 3) (sM 2 (w 2) (sM 1 (w 1) (sM 0 (w 0) 0))) = v
  rw [show sp_X7_choose_B16 2 M (nI a) (nI b) v (nI (3 + 1)) = if (4 : Int32) ≤ nI 4 then (if v = 0 then (sp_X7_choose_n8 M (nI a) (1 <<< (nI b &&& 31))) else (sp_X7_choose_B63 M (nI a) v)) else _ from rfl, if_pos (by decide)]
  unfold fM sp_X7_choose_n8
  by_cases z : v = 0
  · rw [if_pos z, if_pos z]
  · rw [if_neg z, if_neg z]
theorem wayv_step {M : Mem} {a i b m : Nat} (hi : i < 4) (hv : ∀ k, k < 4 → vc_X7_open M (nI a) (nI k)) (hm : ∀ v, vc_X7_choose_B16 m M (nI a) (nI b) v (nI (i + 1))) (v : Int32) : vc_X7_choose_B16 (m + 1) M (nI a) (nI b) v (nI i) := by
  show if 4 ≤ nI i then (if v = 0 then (vc_X7_choose_n8 M (nI a) (1 <<< (nI b &&& 31))) else vc_X7_choose_B63 M (nI a) v) else (if nI i = nI b then vc_X7_choose_B47 (vc_X7_choose_B16 m) M (nI a) (nI b) v (nI i) else (vc_X7_open M (nI a) (nI i) ∧ (if (sp_X7_open M (nI a) (nI i)) = 0 then vc_X7_choose_B47 (vc_X7_choose_B16 m) M (nI a) (nI b) v (nI i) else (vc_X7_choose_B48 (vc_X7_choose_B16 m) M (nI a) (nI b) (nI i) (v ||| (1 <<< (nI i &&& 31)))))))
  rw [if_neg (st4 i hi).1]
  unfold vc_X7_choose_B47 vc_X7_choose_B48 vc_X7_choose_n7
  rw [(st4 i hi).2]
  split
  · exact hm _
  · refine ⟨hv _ hi, ?_⟩
    split
    · exact hm _
    · exact hm _
theorem wayv_all {M : Mem} {a b : Nat} (hv : ∀ k, k < 4 → vc_X7_open M (nI a) (nI k)) (hm : ∀ v, vc_X7_choose_B63 M (nI a) v) : vc_X7_choose_B16 6 M (nI a) (nI b) 0 0 :=
  wayv_step (i := 0) (by decide) hv (wayv_step (i := 1) (by decide) hv (wayv_step (i := 2) (by decide) hv (wayv_step (i := 3) (by decide) hv (fun v => by
    show if (4 : Int32) ≤ nI 4 then (if v = 0 then (vc_X7_choose_n8 M (nI a) (1 <<< (nI b &&& 31))) else vc_X7_choose_B63 M (nI a) v) else _
    rw [if_pos (by decide)]
    unfold vc_X7_choose_n8
    split
    · exact hm _
    · exact hm _)))) 0
theorem pk_step {M : Mem} {a n i m : Nat} {wy : Nat → Bool} {D : Nat → Int32} {q x y : Int32} {s : Int32 × Int32} (hn : n < 4) (hi : i < 4) (hw : ∀ k, k < 4 → ((q >>> (nI k &&& 31)) &&& 1 = 1 ↔ wy k = true)) (hD : ∀ k, k < 4 → (if gI M 27 (nI a).toNatClampNeg = 0 then sp_X7_distance (sp_X7_nextColumn M (nI a) (nI k)) (sp_X7_nextRow M (nI a) (nI k)) x y else 0) = D k) :
    sp_X7_choose_B107 (m + 1) (nI a) q (nI n) M x y s.1 s.2 (nI i) = sp_X7_choose_B107 m (nI a) q (nI n) M x y (pS (wy ((n + i) % 4)) (D ((n + i) % 4)) ((n + i) % 4) s).1 (pS (wy ((n + i) % 4)) (D ((n + i) % 4)) ((n + i) % 4) s).2 (nI (i + 1)) := by
  have hk : (n + i) % 4 < 4 := Nat.mod_lt _ (by decide)
  rw [show sp_X7_choose_B107 (m + 1) (nI a) q (nI n) M x y s.1 s.2 (nI i) = if 4 ≤ nI i then _ else (sp_X7_choose_n3 (sp_X7_choose_B107 m) (nI a) q (nI n) M x y s.1 s.2 (nI i) ((nI n + nI i) &&& 3)) from rfl, if_neg (st4 i hi).1, (md4 n hn i hi).2]
  have hD' := hD _ hk
  unfold sp_X7_choose_n3 pS
  by_cases z : wy ((n + i) % 4) = true
  · rw [if_pos ((hw _ hk).mpr z), if_pos z]
    have e : ∀ g, sp_X7_choose_B166 (sp_X7_choose_B107 m) (nI a) q (nI n) M x y s.1 s.2 (nI i) (nI ((n + i) % 4)) g = sp_X7_choose_B107 m (nI a) q (nI n) M x y (if s.1 < 0 then (nI ((n + i) % 4), g) else if s.2 ≤ g then s else (nI ((n + i) % 4), g)).1 (if s.1 < 0 then (nI ((n + i) % 4), g) else if s.2 ≤ g then s else (nI ((n + i) % 4), g)).2 (nI (i + 1)) := by
      intro g
      unfold sp_X7_choose_B166 sp_X7_choose_B180 sp_X7_choose_B188 sp_X7_choose_n2
      rw [(st4 i hi).2]
      by_cases s0 : s.1 < 0
      · rw [if_pos s0, if_pos s0]
      · rw [if_neg s0, if_neg s0]
        by_cases s1 : s.2 ≤ g
        · rw [if_pos s1, if_pos s1]
        · rw [if_neg s1, if_neg s1]
    by_cases af : gI M 27 (nI a).toNatClampNeg = 0
    · rw [if_pos af] at hD' ⊢
      rw [hD', e]
    · rw [if_neg af] at hD' ⊢
      rw [e, ← hD']
  · rw [if_neg (fun h => z ((hw _ hk).mp h)), if_neg z]
    unfold sp_X7_choose_B188 sp_X7_choose_n2
    rw [(st4 i hi).2]
theorem pk_all {M : Mem} {a n : Nat} {wy : Nat → Bool} {D : Nat → Int32} {q x y : Int32} (hn : n < 4) (hw : ∀ k, k < 4 → ((q >>> (nI k &&& 31)) &&& 1 = 1 ↔ wy k = true)) (hD : ∀ k, k < 4 → (if gI M 27 (nI a).toNatClampNeg = 0 then sp_X7_distance (sp_X7_nextColumn M (nI a) (nI k)) (sp_X7_nextRow M (nI a) (nI k)) x y else 0) = D k) (hg : ¬ (pk wy D n).1 < 0) :
    sp_X7_choose_B107 6 (nI a) q (nI n) M x y (-1) 0 0 = wI M 25 (nI a).toNatClampNeg (pk wy D n).1 := by
  have e := pk_step (m := 5) (i := 0) (s := (-1, 0)) hn (by decide) hw hD
  rw [show sp_X7_choose_B107 6 (nI a) q (nI n) M x y (-1) 0 0 = sp_X7_choose_B107 6 (nI a) q (nI n) M x y (-1) 0 (nI 0) from rfl]
  refine e.trans ?_
  rw [pk_step (m := 4) (i := 1) hn (by decide) hw hD, pk_step (m := 3) (i := 2) hn (by decide) hw hD, pk_step (m := 2) (i := 3) hn (by decide) hw hD]
  show sp_X7_choose_B107 2 (nI a) q (nI n) M x y (pk wy D n).1 (pk wy D n).2 (nI 4) = _
  rw [show sp_X7_choose_B107 2 (nI a) q (nI n) M x y (pk wy D n).1 (pk wy D n).2 (nI 4) = if (4 : Int32) ≤ nI 4 then (if 0 ≤ (pk wy D n).1 then (sp_X7_choose_B215 (nI a) M (pk wy D n).1) else (sp_X7_choose_B215 (nI a) M (gI M 25 (nI a).toNatClampNeg))) else _ from rfl, if_pos (by decide), if_pos (Int32.not_lt.mp hg)]
  rfl
theorem pkv_step {M : Mem} {a n i m : Nat} {q x y : Int32} (hn : n < 4) (hi : i < 4) (ha : vp_in (nI a) 5) (hm : ∀ s t, vc_X7_choose_B107 m (nI a) q (nI n) M x y s t (nI (i + 1))) (s t : Int32) : vc_X7_choose_B107 (m + 1) (nI a) q (nI n) M x y s t (nI i) := by
  show if 4 ≤ nI i then _ else (vc_X7_choose_n3 (vc_X7_choose_B107 m) (nI a) q (nI n) M x y s t (nI i) ((nI n + nI i) &&& 3))
  rw [if_neg (st4 i hi).1]
  have e : ∀ k g, vc_X7_choose_B166 (vc_X7_choose_B107 m) (nI a) q (nI n) M x y s t (nI i) k g := by
    intro k g
    unfold vc_X7_choose_B166 vc_X7_choose_B180 vc_X7_choose_B188 vc_X7_choose_n2
    rw [(st4 i hi).2]
    split
    · exact hm _ _
    · split
      · exact hm _ _
      · exact hm _ _
  unfold vc_X7_choose_n3
  split
  · refine ⟨ha, ?_⟩
    split
    · exact ⟨ha, ha, e _ _⟩
    · exact e _ _
  · unfold vc_X7_choose_B188 vc_X7_choose_n2
    rw [(st4 i hi).2]
    exact hm _ _
theorem pkv_all {M : Mem} {a n : Nat} {q x y : Int32} (hn : n < 4) (ha : vp_in (nI a) 5) : vc_X7_choose_B107 6 (nI a) q (nI n) M x y (-1) 0 0 :=
  pkv_step (i := 0) hn (by decide) ha (pkv_step (i := 1) hn (by decide) ha (pkv_step (i := 2) hn (by decide) ha (pkv_step (i := 3) hn (by decide) ha (fun s t => by
    show if (4 : Int32) ≤ nI 4 then (if 0 ≤ s then vc_X7_choose_B215 (nI a) M s else (vp_in (nI a) 5 ∧ (vc_X7_choose_B215 (nI a) M (gI M 25 (nI a).toNatClampNeg)))) else _
    rw [if_pos (by decide)]
    split
    · exact ha
    · exact ⟨ha, ha⟩)))) (-1) 0
