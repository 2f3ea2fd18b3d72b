/-! THE TWO MEMORIES: where the class has what the reference has -/
def mu (c k : Nat) : Nat × Nat := match c with
  | 20 => (match k with | 2 => (0, 2) | 3 => (1, 3) | 4 => (1, 4) | 5 => (1, 5) | 6 => (1, 9) | 7 => (1, 6) | 8 => (1, 7) | 9 => (1, 10) | 10 => (1, 11) | 11 => (1, 8) | 12 => (0, 4) | 13 => (0, 5) | 14 => (1, 12) | 15 => (0, 3) | 28 => (1, 13) | 29 => (1, 14) | 30 => (1, 15) | _ => (99, 0))
  | 22 => (3, k) | 23 => (5 + k, 0) | 24 => (5 + k, 1) | 25 => (5 + k, 2) | 27 => (5 + k, 4) | 28 => (5 + k, 6) | 29 => (5 + k, 5) | 30 => (5 + k, 7) | 31 => (5 + k, 8) | 32 => (12 + k, 0) | 33 => (12 + k, 1) | _ => (99, 0)
def dI (c k : Nat) : Bool := match c with
  | 20 => decide ((2 ≤ k ∧ k ≤ 15) ∨ (28 ≤ k ∧ k ≤ 30))
  | 22 => decide (k < 117)
  | 23 => decide (k < 5) | 24 => decide (k < 5) | 25 => decide (k < 5) | 27 => decide (k < 5) | 28 => decide (k < 5) | 29 => decide (k < 5) | 30 => decide (k < 5) | 31 => decide (k < 5)
  | 32 => decide (k < 3) | 33 => decide (k < 3) | _ => false
def nuA (a b : Nat) : Nat × Nat := match b with | 0 => (23, a) | 1 => (24, a) | 2 => (25, a) | 4 => (27, a) | 5 => (29, a) | 6 => (28, a) | 7 => (30, a) | 8 => (31, a) | _ => (99, 0)
def nuV (a b : Nat) : Nat × Nat := match b with | 0 => (32, a) | 1 => (33, a) | _ => (99, 0)
def nu (a b : Nat) : Nat × Nat := match a with
  | 0 => (match b with | 2 => (20, 2) | 3 => (20, 15) | 4 => (20, 12) | 5 => (20, 13) | _ => (99, 0))
  | 1 => (match b with | 3 => (20, 3) | 4 => (20, 4) | 5 => (20, 5) | 6 => (20, 7) | 7 => (20, 8) | 8 => (20, 11) | 9 => (20, 6) | 10 => (20, 9) | 11 => (20, 10) | 12 => (20, 14) | 13 => (20, 28) | 14 => (20, 29) | 15 => (20, 30) | _ => (99, 0))
  | 3 => (22, b) | 5 => nuA 0 b | 6 => nuA 1 b | 7 => nuA 2 b | 8 => nuA 3 b | 9 => nuA 4 b | 12 => nuV 0 b | 13 => nuV 1 b | 14 => nuV 2 b | _ => (99, 0)
theorem lt5 {k : Nat} (h : k < 5) : k = 0 ∨ k = 1 ∨ k = 2 ∨ k = 3 ∨ k = 4 := by omega
theorem lt3 {k : Nat} (h : k < 3) : k = 0 ∨ k = 1 ∨ k = 2 := by omega
theorem nu_mu {c k : Nat} (h : dI c k = true) : nu (mu c k).1 (mu c k).2 = (c, k) := by
  unfold dI at h
  split at h
  · have h := of_decide_eq_true h
    rcases (show k = 2 ∨ k = 3 ∨ k = 4 ∨ k = 5 ∨ k = 6 ∨ k = 7 ∨ k = 8 ∨ k = 9 ∨ k = 10 ∨ k = 11 ∨ k = 12 ∨ k = 13 ∨ k = 14 ∨ k = 15 ∨ k = 28 ∨ k = 29 ∨ k = 30 by omega) with rfl | rfl | rfl | rfl | rfl | rfl | rfl | rfl | rfl | rfl | rfl | rfl | rfl | rfl | rfl | rfl | rfl <;> rfl
  · rfl
  iterate 8
    · rcases lt5 (of_decide_eq_true h) with rfl | rfl | rfl | rfl | rfl <;> rfl
  iterate 2
    · rcases lt3 (of_decide_eq_true h) with rfl | rfl | rfl <;> rfl
  · cases h
theorem mu_inj {c k c' k' : Nat} (h : dI c k = true) (h' : dI c' k' = true) (e1 : (mu c k).1 = (mu c' k').1) (e2 : (mu c k).2 = (mu c' k').2) : c = c' ∧ k = k' := by
  have a := nu_mu h
  rw [e1, e2, nu_mu h'] at a
  exact ⟨(congrArg Prod.fst a).symm, (congrArg Prod.snd a).symm⟩
def muF (c k : Nat) : Nat × Nat := if c = 26 then (5 + k, 3) else (12 + k, 2)
def dF (c k : Nat) : Bool := (c == 26 && decide (k < 5)) || (c == 34 && decide (k < 3))
theorem muF_inj {c k c' k' : Nat} (h : dF c k = true) (h' : dF c' k' = true) (e1 : (muF c k).1 = (muF c' k').1) (e2 : (muF c k).2 = (muF c' k').2) : c = c' ∧ k = k' := by
  unfold dF at h h'
  simp only [Bool.or_eq_true, Bool.and_eq_true, beq_iff_eq, decide_eq_true_eq] at h h'
  unfold muF at e1 e2
  rcases h with ⟨rfl, h⟩ | ⟨rfl, h⟩ <;> rcases h' with ⟨rfl, h'⟩ | ⟨rfl, h'⟩ <;> simp at e1 e2 <;> first | (exact ⟨rfl, by omega⟩) | omega
/-- class memory A and reference memory B hold the same -/
def Rl (A B : Mem) : Prop := (∀ c k, dI c k = true → gI B c k = gI A (mu c k).1 (mu c k).2) ∧ (∀ c k, dF c k = true → gF B c k = gF A (muF c k).1 (muF c k).2) ∧ ∀ j, j < 117 → gI B 21 j = planF j
theorem Rl.wi {A B : Mem} (hR : Rl A B) {c k c' k' : Nat} {v v' : Int32} (h : dI c k = true) (e : mu c k = (c', k')) (ev : v = v') : Rl (wI A c' k' v) (wI B c k v') := by
  subst ev
  refine ⟨fun a b hab => ?_, fun a b hab => ?_, fun j hj => ?_⟩
  · rw [gI_wI, gI_wI]
    by_cases hq : a = c ∧ b = k
    · rw [if_pos hq, hq.1, hq.2, e, if_pos ⟨rfl, rfl⟩]
    · rw [if_neg hq, if_neg (fun z => hq (mu_inj hab h (by rw [z.1, e]) (by rw [z.2, e])))]
      exact hR.1 a b hab
  · rw [gF_wI, gF_wI]
    exact hR.2.1 a b hab
  · rw [gI_wI, if_neg (fun z => by rw [← z.1] at h; cases h)]
    exact hR.2.2 j hj
theorem Rl.wf {A B : Mem} (hR : Rl A B) {c k c' k' : Nat} {v v' : UInt32} (h : dF c k = true) (e : muF c k = (c', k')) (ev : v = v') : Rl (wF A c' k' v) (wF B c k v') := by
  subst ev
  refine ⟨fun a b hab => ?_, fun a b hab => ?_, fun j hj => ?_⟩
  · rw [gI_wF, gI_wF]
    exact hR.1 a b hab
  · rw [gF_wF, gF_wF]
    by_cases hq : a = c ∧ b = k
    · rw [if_pos hq, hq.1, hq.2, e, if_pos ⟨rfl, rfl⟩]
    · rw [if_neg hq, if_neg (fun z => hq (muF_inj hab h (by rw [z.1, e]) (by rw [z.2, e])))]
      exact hR.2.1 a b hab
  · rw [gI_wF]
    exact hR.2.2 j hj
/-- a write that the reference has no part in -/
theorem Rl.wx {A B : Mem} (hR : Rl A B) {c k : Nat} {v : Int32} (h : dI (nu c k).1 (nu c k).2 = false) : Rl (wI A c k v) B := by
  refine ⟨fun a b hab => ?_, fun a b hab => ?_, hR.2.2⟩
  · rw [gI_wI, if_neg (fun z => by
      have e := nu_mu hab
      rw [z.1, z.2] at e
      rw [e, hab] at h
      cases h)]
    exact hR.1 a b hab
  · rw [gF_wI]
    exact hR.2.1 a b hab
theorem wI_comm (M : Mem) {c k c' k' : Nat} (v v' : Int32) (h : ¬ (c = c' ∧ k = k')) : wI (wI M c k v) c' k' v' = wI (wI M c' k' v') c k v := by
  unfold wI
  refine Prod.ext (funext fun a => funext fun b => ?_) rfl
  show (if _ then _ else if _ then _ else _) = (if _ then _ else if _ then _ else _)
  by_cases h1 : a = c ∧ b = k <;> by_cases h2 : a = c' ∧ b = k'
  · exact absurd ⟨h1.1.symm.trans h2.1, h1.2.symm.trans h2.2⟩ h
  · rw [if_neg h2, if_pos h1, if_pos h1]
  · rw [if_pos h2, if_neg h1, if_pos h2]
  · rw [if_neg h2, if_neg h1, if_neg h1, if_neg h2]
theorem wIF_comm (M : Mem) (c k c' k' : Nat) (v : Int32) (w : UInt32) : wI (wF M c k w) c' k' v = wF (wI M c' k' v) c k w := rfl
theorem wI_same (M : Mem) (c k : Nat) (v v' : Int32) : wI (wI M c k v) c k v' = wI M c k v' := by
  unfold wI
  refine Prod.ext (funext fun a => funext fun b => ?_) rfl
  show (if _ then _ else if _ then _ else _) = (if _ then _ else _)
  by_cases h1 : a = c ∧ b = k <;> simp [h1]
/-- a number from 0 to n - 1 -/
def inR (n : Nat) (x : Int32) : Prop := ∃ k : Nat, k < n ∧ x = nI k
theorem nI_cl {k : Nat} (h : k < 1000) : (nI k).toNatClampNeg = k := nI_clamp (by omega)
/-- the cell c is the same in both -/
def eqc (A A' : Mem) (c : Nat) : Prop := (∀ k, gI A' c k = gI A c k) ∧ ∀ k, gF A' c k = gF A c k
theorem eqc.rf (A : Mem) (c : Nat) : eqc A A c := ⟨fun _ => rfl, fun _ => rfl⟩
theorem eqc.tr {A B C : Mem} {c : Nat} (h : eqc A B c) (h' : eqc B C c) : eqc A C c := ⟨fun k => (h'.1 k).trans (h.1 k), fun k => (h'.2 k).trans (h.2 k)⟩
theorem eqc.wI {A B : Mem} {c a k : Nat} {v : Int32} (h : eqc A B c) (hne : c ≠ a) : eqc A (wI B a k v) c := ⟨fun j => by rw [gI_wI, if_neg (fun z => hne z.1)]; exact h.1 j, fun j => by rw [gF_wI]; exact h.2 j⟩
theorem eqc.wF {A B : Mem} {c a k : Nat} {v : UInt32} (h : eqc A B c) (hne : c ≠ a) : eqc A (wF B a k v) c := ⟨fun j => by rw [gI_wF]; exact h.1 j, fun j => by rw [gF_wF, if_neg (fun z => hne z.1)]; exact h.2 j⟩
