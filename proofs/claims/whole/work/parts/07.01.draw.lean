def adS (a b c d e : Nat) (n : Nat) : Nat := match n with | 10 => a | 11 => b | 12 => c | 13 => d | _ => e
def cyS (k : Nat) (_ : Nat) : Nat := k
def adG (a b c d e f g h i : Nat) (n : Nat) : Nat := match n with | 1 => a | 2 => b | 3 => c | 4 => d | 5 => e | 6 => f | 7 => g | 8 => h | _ => i
def cyG (a b : Nat) (n : Nat) : Nat := match n with | 3 => a | _ => b
def adM (a b c d e f g h i j k l m n o : Nat) (x : Nat) : Nat := match x with | 20 => a | 21 => b | 22 => c | 23 => d | 24 => e | 25 => f | 26 => g | 27 => h | 28 => i | 29 => j | 30 => k | 31 => l | 32 => m | 33 => n | _ => o
def cyM (b c d e f g h i j k l m n o : Nat) (x : Nat) : Nat := match x with | 21 => b | 22 => c | 23 => d | 24 => e | 25 => f | 26 => g | 27 => h | 28 => i | 29 => j | 30 => k | 31 => l | 32 => m | 33 => n | _ => o
theorem lrG : lr 1 9 [1, 2, 3, 4, 5, 6, 7, 8, 9] := fun c h1 h2 => by
  rcases (show c = 1 ∨ c = 2 ∨ c = 3 ∨ c = 4 ∨ c = 5 ∨ c = 6 ∨ c = 7 ∨ c = 8 ∨ c = 9 by omega) with rfl | rfl | rfl | rfl | rfl | rfl | rfl | rfl | rfl <;> decide
theorem lrM : lr 20 34 [20, 21, 22, 23, 24, 25, 26, 27, 28, 29, 30, 31, 32, 33, 34] := fun c h1 h2 => by
  rcases (show c = 20 ∨ c = 21 ∨ c = 22 ∨ c = 23 ∨ c = 24 ∨ c = 25 ∨ c = 26 ∨ c = 27 ∨ c = 28 ∨ c = 29 ∨ c = 30 ∨ c = 31 ∨ c = 32 ∨ c = 33 ∨ c = 34 by omega) with rfl | rfl | rfl | rfl | rfl | rfl | rfl | rfl | rfl | rfl | rfl | rfl | rfl | rfl | rfl <;> decide
theorem vcClear : vc_X1_clear M00 := (e_setUp _).2
theorem vcPlace (B : Mem) : vc_X7_place B := by
  have e : ∀ a, a < 5 → ∀ (M : Mem) (c r d rest : Int32), vc_X7_put M (nI a) c r d rest := fun a ha M c r d rest => (e_put M a ha c r d rest).2
  exact ⟨e 0 (by decide) _ _ _ _ _, e 1 (by decide) _ _ _ _ _, e 2 (by decide) _ _ _ _ _, e 3 (by decide) _ _ _ _ _, e 4 (by decide) _ _ _ _ _⟩
def vbB : Nat → Int32 → Int32 → Int32 → Int32 → Bool
  | 0, _, _, _, _ => false
  | n + 1, a1, a2, a3, x => if a2 + a3 ≤ x then true else (decide (¬ (13 * a1 + x < 0 ∨ 117 ≤ (13 * a1 + x).toNatClampNeg)) && (decide (¬ (13 * a1 + 12 - x < 0 ∨ 117 ≤ (13 * a1 + 12 - x).toNatClampNeg)) && vbB n a1 a2 a3 (x + 1)))
theorem vbB_ok : ∀ n a1 a2 a3 a4 x (M : Mem), vbB n a1 a2 a3 x = true → vc_X7_both_B3 n a1 a2 a3 a4 x M := by
  intro n
  induction n with
  | zero => intro a1 a2 a3 a4 x M h; exact Bool.noConfusion (show false = true from h)
  | succ n ih =>
    intro a1 a2 a3 a4 x M h
    show if (a2 + a3) ≤ x then True else ((vp_in ((13 * a1) + x) 117) ∧ ((vp_in (((13 * a1) + 12) - x) 117) ∧ vc_X7_both_B3 n a1 a2 a3 a4 (x + 1) _))
    unfold vbB at h
    split
    · trivial
    · rename_i z
      rw [if_neg z] at h
      simp only [Bool.and_eq_true, decide_eq_true_eq] at h
      exact ⟨h.1, h.2.1, ih _ _ _ _ _ _ h.2.2⟩
theorem bothOk (M : Mem) (a b c d : Int32) (h : vbB 8 a b c b = true) : vc_X7_both M a b c d := vbB_ok 8 a b c d b M h
theorem s83 (n : Nat) (x : Int32) (M : Mem) : vc_X7_draw_B83 (n + 1) x M = if 6 ≤ x then (vc_X7_both M 3 6 1 4 ∧ (vc_X7_draw_n3 (sp_X7_both M 3 6 1 4))) else (vc_X7_both M x 1 1 2 ∧ (vc_X7_draw_n6 (vc_X7_draw_B83 n) x (sp_X7_both M x 1 1 2))) := rfl
theorem s53 (n : Nat) (x : Int32) (M : Mem) : vc_X7_draw_B53 (n + 1) x M = if 7 ≤ x then vc_X7_draw_B83 118 3 M else (vc_X7_both M x 1 1 2 ∧ (vc_X7_draw_n9 (vc_X7_draw_B53 n) x (sp_X7_both M x 1 1 2))) := rfl
theorem s23 (n : Nat) (x : Int32) (M : Mem) : vc_X7_draw_B23 (n + 1) x M = if 8 ≤ x then vc_X7_draw_B53 118 2 M else (vc_X7_both M x 1 1 3 ∧ (vc_X7_draw_n12 (vc_X7_draw_B23 n) x (sp_X7_both M x 1 1 3))) := rfl
theorem vcDraw (M : Mem) : vc_X7_draw M := by
  have d83 : ∀ M, vc_X7_draw_B83 118 3 M := by
    intro M
    rw [s83 117, if_neg (by decide)]
    refine ⟨bothOk _ _ _ _ _ (by decide), bothOk _ _ _ _ _ (by decide), ?_⟩
    unfold vc_X7_draw_n5 vc_X7_draw_n4
    rw [s83 116, if_neg (by decide)]
    refine ⟨bothOk _ _ _ _ _ (by decide), bothOk _ _ _ _ _ (by decide), ?_⟩
    unfold vc_X7_draw_n5 vc_X7_draw_n4
    rw [s83 115, if_pos (by decide)]
    exact ⟨bothOk _ _ _ _ _ (by decide), bothOk _ _ _ _ _ (by decide), bothOk _ _ _ _ _ (by decide)⟩
  have d53 : ∀ M, vc_X7_draw_B53 118 2 M := by
    intro M
    rw [s53 117, if_neg (by decide)]
    refine ⟨bothOk _ _ _ _ _ (by decide), bothOk _ _ _ _ _ (by decide), ?_⟩
    unfold vc_X7_draw_n8 vc_X7_draw_n7
    rw [s53 116, if_neg (by decide)]
    refine ⟨bothOk _ _ _ _ _ (by decide), bothOk _ _ _ _ _ (by decide), ?_⟩
    unfold vc_X7_draw_n8 vc_X7_draw_n7
    rw [s53 115, if_pos (by decide)]
    exact d83 _
  have d23 : ∀ M, vc_X7_draw_B23 118 1 M := by
    intro M
    rw [s23 117, if_neg (by decide)]
    refine ⟨bothOk _ _ _ _ _ (by decide), bothOk _ _ _ _ _ (by decide), ?_⟩
    unfold vc_X7_draw_n11 vc_X7_draw_n10
    rw [s23 116, if_neg (by decide)]
    refine ⟨bothOk _ _ _ _ _ (by decide), bothOk _ _ _ _ _ (by decide), ?_⟩
    unfold vc_X7_draw_n11 vc_X7_draw_n10
    rw [s23 115, if_pos (by decide)]
    exact d53 _
  have s : ∀ n i (M : Mem), i ≤ 117 → 117 < i + n → vc_X7_draw_B2 n (nI i) M := by
    intro n
    induction n with
    | zero => intro i M h1 h2; omega
    | succ n ih =>
      intro i M h1 h2
      by_cases z : i = 117
      · subst z
        show if (117 : Int32) ≤ nI 117 then vc_X7_draw_B23 118 1 M else _
        rw [if_pos (by decide)]
        exact d23 M
      · obtain ⟨q1, q2, q3, q4, -⟩ := ix117 i (by omega)
        show if (117 : Int32) ≤ nI i then vc_X7_draw_B23 118 1 M else (vp_in (nI i) 117 ∧ vc_X7_draw_B2 n (nI i + 1) _)
        rw [if_neg q3, q4]
        exact ⟨q1, ih (i + 1) _ (by omega) (by omega)⟩
  exact s 118 0 M (by decide) (by decide)
/-! the board's world, out of its parts -/
def adB (h : Nat) (f g : Nat → Nat) (c : Nat) : Nat := if c = 0 then h else if c < 10 then f c else g c
def cyB (f g : Nat → Nat) (c : Nat) : Nat := if c < 10 then f c else g c
theorem R0_g : ∀ c, c < 10 → 1 ≤ c → ∀ k, k < (sh c).2.2 → (match R0 c k with | none => true | some j => decide (1 ≤ j ∧ j < 10)) = true := by decide +kernel
theorem R0_s : ∀ c, c < 15 → 10 ≤ c → ∀ k, k < (sh c).2.2 → (match R0 c k with | none => true | some j => decide (10 ≤ j)) = true := by decide +kernel
theorem clr_eqc (n : Nat) (h : n = 0 ∨ 10 ≤ n) : eqc M00 (sp_X1_clear M00) n := by
  have e : sp_X1_clear M00 = sp_X1_setUp (wI (wI (wI M00 1 3 0) 1 6 0) 1 7 0) := rfl
  rw [e, (e_setUp _).1, e_placeActors]
  have e1 : eqc M00 (fillX (wI (wI (wI (wI (wI (wI (wI M00 1 3 0) 1 6 0) 1 7 0) 1 4 0) 1 8 0) 1 9 0) 1 12 1)) n :=
    ((((((((eqc.rf M00 n).wI (by omega)).wI (by omega)).wI (by omega)).wI (by omega)).wI (by omega)).wI (by omega)).wI (by omega)).tr (fillX_eqc _ n (by omega) (by omega))
  exact ((((((e1.tr (place_eqc _ _ _ _ _ _ n (by omega))).tr (place_eqc _ _ _ _ _ _ n (by omega))).tr (place_eqc _ _ _ _ _ _ n (by omega))).tr (place_eqc _ _ _ _ _ _ n (by omega))).tr (place_eqc _ _ _ _ _ _ n (by omega))).wI (by omega)).wI (by omega)
theorem bd_P {D : va_G} {h : Nat} {cyg adg cys ads : Nat → Nat} {H : Heap} (h0 : va_at D vwCl (h, .inr (5, [.ref (adg 1), .ref (ads 10), .int 0, .int (-1), .int 0, .int 0])) H) (hg : va_P D vwCl (wl cyg adg R0 (sp_X1_clear M00) [1, 2, 3, 4, 5, 6, 7, 8, 9]) H) (hs : va_P D vwCl (wl cys ads R0 M00 [10, 11, 12, 13, 14]) H) :
    va_P D vwCl (wl (cyB cyg cys) (adB h adg ads) R0 (wI (sp_X1_clear M00) 0 3 (-1)) [0, 1, 2, 3, 4, 5, 6, 7, 8, 9, 10, 11, 12, 13, 14]) H := by
  refine wl_P.mpr (fun c hc => ?_)
  have hlt : c < 15 := by
    simp only [List.mem_cons, List.not_mem_nil, or_false] at hc
    omega
  by_cases c0 : c = 0
  · subst c0
    have h1 : va_at D vwCl (adB h adg ads 0, cel (cyB cyg cys) (adB h adg ads) R0 (wI M00 0 3 (-1)) 0) H := h0
    have e := clr_eqc 0 (by omega)
    exact cel_at h1 rfl (fun k => by rw [gI_wI, gI_wI, e.1]) (fun k => by rw [gF_wI, gF_wI, e.2]) (fun k _ => rfl)
  · by_cases c9 : c < 10
    · have h1 := wl_P.mp hg c (by
        rcases (show c = 1 ∨ c = 2 ∨ c = 3 ∨ c = 4 ∨ c = 5 ∨ c = 6 ∨ c = 7 ∨ c = 8 ∨ c = 9 by omega) with rfl | rfl | rfl | rfl | rfl | rfl | rfl | rfl | rfl <;> decide)
      have ea : adB h adg ads c = adg c := by unfold adB; rw [if_neg c0, if_pos c9]
      rw [ea]
      refine cel_at h1 (by unfold cyB; rw [if_pos c9]) (fun k => by rw [gI_wI, if_neg (by omega)]) (fun k => rfl) (fun k hk => ?_)
      have q := R0_g c c9 (by omega) k hk
      cases hr : R0 c k with
      | none => rfl
      | some j =>
        rw [hr] at q
        have q := of_decide_eq_true q
        show some (adB h adg ads j) = some (adg j)
        unfold adB
        rw [if_neg (by omega), if_pos q.2]
    · have h1 := wl_P.mp hs c (by
        rcases (show c = 10 ∨ c = 11 ∨ c = 12 ∨ c = 13 ∨ c = 14 by omega) with rfl | rfl | rfl | rfl | rfl <;> decide)
      have ea : adB h adg ads c = ads c := by unfold adB; rw [if_neg c0, if_neg c9]
      have e := clr_eqc c (by omega)
      rw [ea]
      refine cel_at h1 (by unfold cyB; rw [if_neg c9]) (fun k => by rw [gI_wI, if_neg (by omega), e.1]) (fun k => by rw [gF_wI, e.2]) (fun k hk => ?_)
      have q := R0_s c hlt (by omega) k hk
      cases hr : R0 c k with
      | none => rfl
      | some j =>
        rw [hr] at q
        have q := of_decide_eq_true q
        show some (adB h adg ads j) = some (ads j)
        unfold adB
        rw [if_neg (by omega), if_neg (by omega)]
theorem bd_K {D : va_G} {cyg cys : Nat → Nat} {s : State} (hg : KK D cyg [1, 2, 3, 4, 5, 6, 7, 8, 9] s) (hs : KK D cys [10, 11, 12, 13, 14] s) : KK D (cyB cyg cys) [0, 1, 2, 3, 4, 5, 6, 7, 8, 9, 10, 11, 12, 13, 14] s := by
  refine ⟨hg.1, fun c hc hn => ?_⟩
  have hlt : c < 15 := by
    simp only [List.mem_cons, List.not_mem_nil, or_false] at hc
    omega
  by_cases c0 : c = 0
  · subst c0; exact absurd rfl hn
  · by_cases c9 : c < 10
    · have := hg.2 c (by
        rcases (show c = 1 ∨ c = 2 ∨ c = 3 ∨ c = 4 ∨ c = 5 ∨ c = 6 ∨ c = 7 ∨ c = 8 ∨ c = 9 by omega) with rfl | rfl | rfl | rfl | rfl | rfl | rfl | rfl | rfl <;> decide) hn
      unfold cyB
      rw [if_pos c9]
      exact this
    · have := hs.2 c (by
        rcases (show c = 10 ∨ c = 11 ∨ c = 12 ∨ c = 13 ∨ c = 14 by omega) with rfl | rfl | rfl | rfl | rfl <;> decide) hn
      unfold cyB
      rw [if_neg c9]
      exact this
theorem wl_ad {cy ad : Nat → Nat} {RR : Nat → Nat → Option Nat} {M : Mem} {L : List Nat} : (wl cy ad RR M L).map Prod.fst = L.map ad := by
  unfold wl
  rw [List.map_map]
  rfl
