theorem nest_in : ∀ q ∈ nestL, Cond.methodLinkNest q.1 q.2.1 q.2.2.1 q.2.2.2 ∈ lw_tbl := by decide +kernel
theorem plan_in : ∀ j, j < 117 → Cond.eq (Term.elem (Term.static "MazeBoard$Maze" "PLAN" "[B") (Term.int (Int32.ofNat j))) (Term.int (planF j)) ∈ flatC (Jvm.Cond.and given_1 narrow_1) := by decide +kernel
theorem law_EX {s : State} {b : Nat} (hts : ∀ w ∈ lw_tbl, w.before #[Value.ref b] s = true) (hgv : (Jvm.Cond.and given_1 narrow_1).before #[Value.ref b] s = true) : EX (fun q => s.heap.size ≤ q) s := by
  have hs := flat_of_before _ hgv
  have hA : ∀ a : Nat, a < s.heap.size → ¬ (fun q => s.heap.size ≤ q) a := fun a h => Nat.not_le.mpr h
  have harr : (Cond.arrayOf (Term.static "MazeBoard$Maze" "PLAN" "[B") .byte).before #[Value.ref b] s = true := hs _ (by decide +kernel)
  have hlen : (Cond.eq (Term.length (Term.static "MazeBoard$Maze" "PLAN" "[B")) (Term.int (Int32.ofNat 117))).before #[Value.ref b] s = true := hs _ (by decide +kernel)
  obtain ⟨t, ht, hT⟩ := va_Tof (f := fun j => .int (planF j)) (A := fun q => s.heap.size ≤ q) (N := 117) (by decide) harr (va_eqt hlen) (fun j hj => va_eqt (hs _ (plan_in j hj))) hA
  exact ⟨⟨t, va_Zof (hts (.laysStatic "MazeBoard$Maze" "PLAN" "[B") (by decide +kernel)) (hts (.initialized "MazeBoard$Maze") (by decide +kernel)) ht hA, hT⟩, fun q hq => hts _ (nest_in q hq)⟩
theorem law_K {s : State} {b : Nat} (hB : ∀ w ∈ BG, w.before #[Value.ref b] s = true) : ∃ D : va_G, va_K D vwCl [] s := by
  obtain ⟨c0, i0, h0⟩ := u_known (C := RX0) (T := TX0) (N := 11) (n := 11) hB uw_X0 (hB _ mw_1_42)
  obtain ⟨c1, i1, h1⟩ := u_known (C := RX1) (T := TX1) (N := 16) (n := 16) hB uw_X1 (hB _ mw_1_19)
  obtain ⟨c2, i2, h2⟩ := u_known (C := RX2) (T := TX2) (N := 2) (n := 2) hB uw_X2 (hB _ mw_1_25)
  obtain ⟨c3, i3, h3⟩ := u_known (C := RX4) (T := TX4) (N := 1) (n := 1) hB uw_X4 (hB _ mw_1_191)
  obtain ⟨c4, i4, h4⟩ := u_known (C := RX5) (T := TX5) (N := 3) (n := 3) hB uw_X5 (hB _ mw_1_198)
  obtain ⟨c5, i5, h5⟩ := u_known (C := RX6) (T := TX6) (N := 6) (n := 6) hB uw_X6 (hB _ mw_1_11)
  obtain ⟨c6, i6, h6⟩ := u_known (C := RX7) (T := TX7) (N := 31) (n := 31) hB uw_X7 (hB _ mw_3_19)
  refine ⟨(fun k => match k with | 0 => c0 | 1 => c1 | 2 => c2 | 3 => c3 | 4 => c4 | 5 => c5 | _ => c6, fun k => match k with | 0 => i0 | 1 => i1 | 2 => i2 | 3 => i3 | 4 => i4 | 5 => i5 | _ => i6), fun k q hq => ?_, fun k q h => by simp at h⟩
  match k, hq with
  | 0, hq => cases hq; exact h0
  | 1, hq => cases hq; exact h1
  | 2, hq => cases hq; exact h2
  | 3, hq => cases hq; exact h3
  | 4, hq => cases hq; exact h4
  | 5, hq => cases hq; exact h5
  | 6, hq => cases hq; exact h6
  | k + 7, hq => simp [vwCl] at hq
theorem Lg_of {D : va_G} {cy ad cy' ad' : Nat → Nat} {s : State} {A B : Mem} {H : Heap} {locs : List Loc} (hP : va_P D vwCl (wl cy ad R0 A LXl ++ wl cy' ad' R0 B LMl) H) (hD : va_D (fun q => s.heap.size ≤ q) (wl cy ad R0 A LXl ++ wl cy' ad' R0 B LMl)) (hS : va_S (fun q => s.heap.size ≤ q) s.heap H locs) : Lg D cy ad LXl cy' ad' LMl s A B H locs := by
  have l1 : (wl cy ad R0 A LXl).length = 15 := by unfold wl LXl; simp
  have e1 : ∀ (k : Nat) (q : Nat × va_E), (wl cy ad R0 A LXl)[k]? = some q → k < 15 ∧ (wl cy ad R0 A LXl ++ wl cy' ad' R0 B LMl)[k]? = some q := by
    intro k q hk
    have hlt := (List.getElem?_eq_some_iff.mp hk).1
    rw [l1] at hlt
    exact ⟨hlt, by rw [List.getElem?_append_left (by rw [l1]; exact hlt)]; exact hk⟩
  have e2 : ∀ (k : Nat) (q : Nat × va_E), (wl cy' ad' R0 B LMl)[k]? = some q → (wl cy ad R0 A LXl ++ wl cy' ad' R0 B LMl)[15 + k]? = some q := by
    intro k q hk
    rw [List.getElem?_append_right (by rw [l1]; omega), l1, Nat.add_sub_cancel_left]
    exact hk
  refine ⟨fun k q hk => hP k q (e1 k q hk).2, fun k q hk => hP _ q (e2 k q hk), ⟨fun i j p q hi hj e => hD.1 i j p q (e1 i p hi).2 (e1 j q hj).2 e, fun k q hk => hD.2 k q (e1 k q hk).2⟩, ⟨fun i j p q hi hj e => ?_, fun k q hk => hD.2 _ q (e2 k q hk)⟩, fun c hc c' hc' e => ?_, hS⟩
  · have := hD.1 _ _ p q (e2 i p hi) (e2 j q hj) e
    omega
  · obtain ⟨i, hi⟩ := wl_get (cy := cy) (ad := ad) (RR := R0) (M := A) hc
    obtain ⟨j, hj⟩ := wl_get (cy := cy') (ad := ad') (RR := R0) (M := B) hc'
    have h1 := e1 i _ hi
    have := hD.1 i (15 + j) _ _ h1.2 (e2 j _ hj) e
    omega
