/-! what each method computes (sp_..) and what must hold on its way (vc_..), by program out of the decoded instructions (wip/whole/gen.py) -/
def sp_X0_place_n1 (M8 : Mem) : Mem := M8
def sp_X0_place_n2 (h : Nat) (a4 : Int32) (M7 : Mem) : Mem := sp_X0_place_n1 (wI M7 h 6 a4)
def sp_X0_place_B36 (h : Nat) (a4 : Int32) (M5 : Mem) (x6 : Int32) : Mem := sp_X0_place_n2 h a4 (wI M5 h 5 x6)
def vc_X0_place_B36 (h : Nat) (a4 : Int32) (M5 : Mem) (x6 : Int32) : Prop := (x6 = 0 ∨ x6 = 1)
def sp_X0_place_n3 (h : Nat) (a4 : Int32) (M5 : Mem) : Mem := if a4 ≤ 0 then (sp_X0_place_B36 h a4 M5 0) else (sp_X0_place_B36 h a4 M5 1)
def vc_X0_place_n3 (h : Nat) (a4 : Int32) (M5 : Mem) : Prop := if a4 ≤ 0 then vc_X0_place_B36 h a4 M5 0 else vc_X0_place_B36 h a4 M5 1
def sp_X0_place_n4 (h : Nat) (a4 : Int32) (M4 : Mem) : Mem := sp_X0_place_n3 h a4 (wI M4 h 4 0)
def vc_X0_place_n4 (h : Nat) (a4 : Int32) (M4 : Mem) : Prop := vc_X0_place_n3 h a4 (wI M4 h 4 0)
def sp_X0_place_n5 (h : Nat) (a4 : Int32) (M3 : Mem) : Mem := sp_X0_place_n4 h a4 (wF M3 h 3 FP.fconst0)
def vc_X0_place_n5 (h : Nat) (a4 : Int32) (M3 : Mem) : Prop := vc_X0_place_n4 h a4 (wF M3 h 3 FP.fconst0)
def sp_X0_place_n6 (h : Nat) (a3 : Int32) (a4 : Int32) (M2 : Mem) : Mem := sp_X0_place_n5 h a4 (wI M2 h 2 a3)
def vc_X0_place_n6 (h : Nat) (a3 : Int32) (a4 : Int32) (M2 : Mem) : Prop := vc_X0_place_n5 h a4 (wI M2 h 2 a3)
def sp_X0_place_n7 (h : Nat) (a2 : Int32) (a3 : Int32) (a4 : Int32) (M1 : Mem) : Mem := sp_X0_place_n6 h a3 a4 (wI M1 h 1 a2)
def vc_X0_place_n7 (h : Nat) (a2 : Int32) (a3 : Int32) (a4 : Int32) (M1 : Mem) : Prop := vc_X0_place_n6 h a3 a4 (wI M1 h 1 a2)
def sp_X0_place (M : Mem) (h : Nat) (a1 : Int32) (a2 : Int32) (a3 : Int32) (a4 : Int32) : Mem := sp_X0_place_n7 h a2 a3 a4 (wI M h 0 a1)
def vc_X0_place (M : Mem) (h : Nat) (a1 : Int32) (a2 : Int32) (a3 : Int32) (a4 : Int32) : Prop := vc_X0_place_n7 h a2 a3 a4 (wI M h 0 a1)
def sp_X0_rememberCell_n1 (M2 : Mem) : Mem := M2
def sp_X0_rememberCell_n2 (h : Nat) (M1 : Mem) : Mem := sp_X0_rememberCell_n1 (wI M1 h 8 (gI M1 h 1))
def sp_X0_rememberCell (M : Mem) (h : Nat) : Mem := sp_X0_rememberCell_n2 h (wI M h 7 (gI M h 0))
def sp_X6_nextColumn_B36 (x2 : Int32) : Int32 := x2
def sp_X6_nextColumn_B17 (x1 : Int32) : Int32 := x1
def sp_X6_nextColumn (a1 : Int32) (a2 : Int32) : Int32 := if a2 = 1 then (if a1 = 0 then (sp_X6_nextColumn_B17 12) else (sp_X6_nextColumn_B17 (a1 - 1))) else (if a2 = 3 then (if a1 = 12 then (sp_X6_nextColumn_B36 0) else (sp_X6_nextColumn_B36 (a1 + 1))) else a1)
def sp_X6_nextRow_B22 (x1 : Int32) : Int32 := x1
def sp_X6_nextRow (a1 : Int32) (a2 : Int32) : Int32 := if a2 = 0 then (sp_X6_nextRow_B22 (a1 - 1)) else (if a2 = 2 then (sp_X6_nextRow_B22 (a1 + 1)) else (sp_X6_nextRow_B22 a1))
def sp_X0_enterNextCell_n1 (M2 : Mem) : Mem := M2
def sp_X0_enterNextCell_n2 (h : Nat) (M1 : Mem) : Mem := sp_X0_enterNextCell_n1 (wI M1 h 1 (sp_X6_nextRow (gI M1 h 1) (gI M1 h 2)))
def sp_X0_enterNextCell (M : Mem) (h : Nat) : Mem := sp_X0_enterNextCell_n2 h (wI M h 0 (sp_X6_nextColumn (gI M h 0) (gI M h 2)))
def sp_X0_isAt_B21 (x1 : Int32) : Int32 := x1
def vc_X0_isAt_B21 (x1 : Int32) : Prop := (x1 = 0 ∨ x1 = 1)
def sp_X0_isAt_B20  : Int32 := sp_X0_isAt_B21 0
def vc_X0_isAt_B20  : Prop := vc_X0_isAt_B21 0
def sp_X0_isAt (M : Mem) (h : Nat) (a1 : Int32) (a2 : Int32) : Int32 := if (gI M h 0) = a1 then (if (gI M h 1) = a2 then (sp_X0_isAt_B21 1) else sp_X0_isAt_B20) else sp_X0_isAt_B20
def vc_X0_isAt (M : Mem) (h : Nat) (a1 : Int32) (a2 : Int32) : Prop := if (gI M h 0) = a1 then (if (gI M h 1) = a2 then vc_X0_isAt_B21 1 else vc_X0_isAt_B20) else vc_X0_isAt_B20
def sp_X0_meets_B50 (x1 : Int32) : Int32 := x1
def vc_X0_meets_B50 (x1 : Int32) : Prop := (x1 = 0 ∨ x1 = 1)
def sp_X0_meets_B49  : Int32 := sp_X0_meets_B50 0
def vc_X0_meets_B49  : Prop := vc_X0_meets_B50 0
def sp_X0_meets_B45  : Int32 := sp_X0_meets_B50 1
def vc_X0_meets_B45  : Prop := vc_X0_meets_B50 1
def sp_X0_meets (M : Mem) (h : Nat) (b1 : Nat) : Int32 := if (sp_X0_isAt M h (gI M b1 0) (gI M b1 1)) = 0 then (if (sp_X0_isAt M h (gI M b1 7) (gI M b1 8)) = 0 then sp_X0_meets_B49 else (if (sp_X0_isAt M b1 (gI M h 7) (gI M h 8)) = 0 then sp_X0_meets_B49 else sp_X0_meets_B45)) else sp_X0_meets_B45
def vc_X0_meets (M : Mem) (h : Nat) (b1 : Nat) : Prop := (vc_X0_isAt M h (gI M b1 0) (gI M b1 1)) ∧ (if (sp_X0_isAt M h (gI M b1 0) (gI M b1 1)) = 0 then ((vc_X0_isAt M h (gI M b1 7) (gI M b1 8)) ∧ (if (sp_X0_isAt M h (gI M b1 7) (gI M b1 8)) = 0 then vc_X0_meets_B49 else ((vc_X0_isAt M b1 (gI M h 7) (gI M h 8)) ∧ (if (sp_X0_isAt M b1 (gI M h 7) (gI M h 8)) = 0 then vc_X0_meets_B49 else vc_X0_meets_B45)))) else vc_X0_meets_B45)
def sp_X0_aimAt_n1 (M2 : Mem) : Mem := M2
def sp_X0_aimAt_n2 (h : Nat) (a2 : Int32) (M1 : Mem) : Mem := sp_X0_aimAt_n1 (wI M1 h 10 a2)
def sp_X0_aimAt (M : Mem) (h : Nat) (a1 : Int32) (a2 : Int32) : Mem := sp_X0_aimAt_n2 h a2 (wI M h 9 a1)
def sp_X1_placeActors_n1 (M7 : Mem) : Mem := M7
def sp_X1_placeActors_n2 (M6 : Mem) : Mem := sp_X1_placeActors_n1 (wI M6 1 11 0)
def sp_X1_placeActors_n3 (M5 : Mem) : Mem := sp_X1_placeActors_n2 (wI M5 1 10 0)
def sp_X1_placeActors_n4 (M4 : Mem) : Mem := sp_X1_placeActors_n3 (sp_X0_place M4 9 7 4 0 120)
def vc_X1_placeActors_n4 (M4 : Mem) : Prop := vc_X0_place M4 9 7 4 0 120
def sp_X1_placeActors_n5 (M3 : Mem) : Mem := sp_X1_placeActors_n4 (sp_X0_place M3 8 5 4 0 80)
def vc_X1_placeActors_n5 (M3 : Mem) : Prop := vc_X0_place M3 8 5 4 0 80 ∧ (vc_X1_placeActors_n4 (sp_X0_place M3 8 5 4 0 80))
def sp_X1_placeActors_n6 (M2 : Mem) : Mem := sp_X1_placeActors_n5 (sp_X0_place M2 7 6 4 0 40)
def vc_X1_placeActors_n6 (M2 : Mem) : Prop := vc_X0_place M2 7 6 4 0 40 ∧ (vc_X1_placeActors_n5 (sp_X0_place M2 7 6 4 0 40))
def sp_X1_placeActors_n7 (M1 : Mem) : Mem := sp_X1_placeActors_n6 (sp_X0_place M1 6 6 2 1 0)
def vc_X1_placeActors_n7 (M1 : Mem) : Prop := vc_X0_place M1 6 6 2 1 0 ∧ (vc_X1_placeActors_n6 (sp_X0_place M1 6 6 2 1 0))
def sp_X1_placeActors (M : Mem) : Mem := sp_X1_placeActors_n7 (sp_X0_place M 5 6 6 1 0)
def vc_X1_placeActors (M : Mem) : Prop := vc_X0_place M 5 6 6 1 0 ∧ (vc_X1_placeActors_n7 (sp_X0_place M 5 6 6 1 0))
def sp_X2_refill_n1 (K : Int32 → Mem → Mem) (M6 : Mem) (x7 : Int32) : Mem := K x7 M6
def vc_X2_refill_n1 (KV : Int32 → Mem → Prop) (M6 : Mem) (x7 : Int32) : Prop := KV x7 M6
def sp_X2_refill_B57 (K : Int32 → Mem → Mem) (x2 : Int32) (M6 : Mem) : Mem := sp_X2_refill_n1 K M6 (x2 + 1)
def vc_X2_refill_B57 (KV : Int32 → Mem → Prop) (x2 : Int32) (M6 : Mem) : Prop := vc_X2_refill_n1 KV M6 (x2 + 1)
def sp_X2_refill_n2 (K : Int32 → Mem → Mem) (x2 : Int32) (M5 : Mem) : Mem := sp_X2_refill_B57 K x2 M5
def vc_X2_refill_n2 (KV : Int32 → Mem → Prop) (x2 : Int32) (M5 : Mem) : Prop := vc_X2_refill_B57 KV x2 M5
def sp_X2_refill_B47 (K : Int32 → Mem → Mem) (x2 : Int32) (M4 : Mem) : Mem := sp_X2_refill_n2 K x2 (wI M4 2 1 ((gI M4 2 1) + 1))
def vc_X2_refill_B47 (KV : Int32 → Mem → Prop) (x2 : Int32) (M4 : Mem) : Prop := vc_X2_refill_n2 KV x2 (wI M4 2 1 ((gI M4 2 1) + 1))
def sp_X2_refill_n3 (K : Int32 → Mem → Mem) (x2 : Int32) (M4 : Mem) : Mem := if (gI M4 3 x2.toNatClampNeg) = 2 then (sp_X2_refill_B47 K x2 M4) else (if (gI M4 3 x2.toNatClampNeg) = 3 then (sp_X2_refill_B47 K x2 M4) else (sp_X2_refill_B57 K x2 M4))
def vc_X2_refill_n3 (KV : Int32 → Mem → Prop) (x2 : Int32) (M4 : Mem) : Prop := vp_in x2 117 ∧ (if (gI M4 3 x2.toNatClampNeg) = 2 then vc_X2_refill_B47 KV x2 M4 else (vp_in x2 117 ∧ (if (gI M4 3 x2.toNatClampNeg) = 3 then vc_X2_refill_B47 KV x2 M4 else vc_X2_refill_B57 KV x2 M4)))
def sp_X2_refill_B7 : Nat → Int32 → Mem → Mem
  | 0, x2, M3 => M3
  | n + 1, x2, M3 => if 117 ≤ x2 then M3 else (sp_X2_refill_n3 (sp_X2_refill_B7 n) x2 (wI M3 3 x2.toNatClampNeg (vp_nar .byte (planF x2.toNatClampNeg))))
def vc_X2_refill_B7 : Nat → Int32 → Mem → Prop
  | 0, _, _ => False
  | n + 1, x2, M3 => if 117 ≤ x2 then True else (vp_in x2 117 ∧ (vp_in x2 117 ∧ (vc_X2_refill_n3 (vc_X2_refill_B7 n) x2 (wI M3 3 x2.toNatClampNeg (vp_nar .byte (planF x2.toNatClampNeg))))))
def sp_X2_refill_n4 (M1 : Mem) : Mem := sp_X2_refill_B7 118 0 M1
def vc_X2_refill_n4 (M1 : Mem) : Prop := vc_X2_refill_B7 118 0 M1
def sp_X2_refill (M : Mem) : Mem := sp_X2_refill_n4 (wI M 2 1 0)
def vc_X2_refill (M : Mem) : Prop := vc_X2_refill_n4 (wI M 2 1 0)
def sp_X1_setUp_n1 (M6 : Mem) : Mem := M6
def sp_X1_setUp_n2 (M5 : Mem) : Mem := sp_X1_setUp_n1 (sp_X1_placeActors M5)
def vc_X1_setUp_n2 (M5 : Mem) : Prop := vc_X1_placeActors M5
def sp_X1_setUp_n3 (M4 : Mem) : Mem := sp_X1_setUp_n2 (sp_X2_refill M4)
def vc_X1_setUp_n3 (M4 : Mem) : Prop := vc_X2_refill M4 ∧ (vc_X1_setUp_n2 (sp_X2_refill M4))
def sp_X1_setUp_n4 (M3 : Mem) : Mem := sp_X1_setUp_n3 (wI M3 1 12 1)
def vc_X1_setUp_n4 (M3 : Mem) : Prop := vc_X1_setUp_n3 (wI M3 1 12 1)
def sp_X1_setUp_n5 (M2 : Mem) : Mem := sp_X1_setUp_n4 (wI M2 1 9 0)
def vc_X1_setUp_n5 (M2 : Mem) : Prop := vc_X1_setUp_n4 (wI M2 1 9 0)
def sp_X1_setUp_n6 (M1 : Mem) : Mem := sp_X1_setUp_n5 (wI M1 1 8 0)
def vc_X1_setUp_n6 (M1 : Mem) : Prop := vc_X1_setUp_n5 (wI M1 1 8 0)
def sp_X1_setUp (M : Mem) : Mem := sp_X1_setUp_n6 (wI M 1 4 0)
def vc_X1_setUp (M : Mem) : Prop := vc_X1_setUp_n6 (wI M 1 4 0)
def sp_X1_clear_n1 (M4 : Mem) : Mem := M4
def sp_X1_clear_n2 (M3 : Mem) : Mem := sp_X1_clear_n1 (sp_X1_setUp M3)
def vc_X1_clear_n2 (M3 : Mem) : Prop := vc_X1_setUp M3
def sp_X1_clear_n3 (M2 : Mem) : Mem := sp_X1_clear_n2 (wI M2 1 7 0)
def vc_X1_clear_n3 (M2 : Mem) : Prop := vc_X1_clear_n2 (wI M2 1 7 0)
def sp_X1_clear_n4 (M1 : Mem) : Mem := sp_X1_clear_n3 (wI M1 1 6 0)
def vc_X1_clear_n4 (M1 : Mem) : Prop := vc_X1_clear_n3 (wI M1 1 6 0)
def sp_X1_clear (M : Mem) : Mem := sp_X1_clear_n4 (wI M 1 3 0)
def vc_X1_clear (M : Mem) : Prop := vc_X1_clear_n4 (wI M 1 3 0)
def sp_X1_begin_n1 (M4 : Mem) : Mem := M4
def sp_X1_begin_n2 (M3 : Mem) : Mem := sp_X1_begin_n1 (sp_X1_setUp M3)
def vc_X1_begin_n2 (M3 : Mem) : Prop := vc_X1_setUp M3
def sp_X1_begin_n3 (M2 : Mem) : Mem := sp_X1_begin_n2 (wI M2 1 7 1)
def vc_X1_begin_n3 (M2 : Mem) : Prop := vc_X1_begin_n2 (wI M2 1 7 1)
def sp_X1_begin_n4 (M1 : Mem) : Mem := sp_X1_begin_n3 (wI M1 1 6 3)
def vc_X1_begin_n4 (M1 : Mem) : Prop := vc_X1_begin_n3 (wI M1 1 6 3)
def sp_X1_begin (M : Mem) : Mem := sp_X1_begin_n4 (wI M 1 3 1)
def vc_X1_begin (M : Mem) : Prop := vc_X1_begin_n4 (wI M 1 3 1)
def sp_J9_max_7cf53_B10 (x1 : Int32) : Int32 := x1
def sp_J9_max_7cf53 (a1 : Int32) (a2 : Int32) : Int32 := if a1 < a2 then (sp_J9_max_7cf53_B10 a2) else (sp_J9_max_7cf53_B10 a1)
def sp_X1_addPoints_B57 (M5 : Mem) : Mem := M5
def sp_X1_addPoints_n1 (M4 : Mem) : Mem := sp_X1_addPoints_B57 M4
def sp_X1_addPoints_n2 (M3 : Mem) : Mem := sp_X1_addPoints_n1 (wI M3 1 6 ((gI M3 1 6) + 1))
def sp_X1_addPoints_n3 (M2 : Mem) : Mem := if (gI M2 1 4) < 3000 then (sp_X1_addPoints_B57 M2) else (if (gI M2 1 9) = 0 then (sp_X1_addPoints_n2 (wI M2 1 9 1)) else (sp_X1_addPoints_B57 M2))
def sp_X1_addPoints_n4 (M1 : Mem) : Mem := sp_X1_addPoints_n3 (wI M1 1 5 (sp_J9_max_7cf53 (gI M1 1 5) (gI M1 1 4)))
def sp_X1_addPoints (M : Mem) (a1 : Int32) : Mem := sp_X1_addPoints_n4 (wI M 1 4 ((gI M 1 4) + a1))
def sp_X2_whatIs_B20  : Int32 := (-1)
def sp_X2_whatIs (M : Mem) (a1 : Int32) (a2 : Int32) : Int32 := if a1 < 0 then sp_X2_whatIs_B20 else (if 13 ≤ a1 then sp_X2_whatIs_B20 else (if a2 < 0 then sp_X2_whatIs_B20 else (if a2 < 9 then (gI M 3 (((a2 * 13) + a1).toNatClampNeg)) else sp_X2_whatIs_B20)))
def vc_X2_whatIs (M : Mem) (a1 : Int32) (a2 : Int32) : Prop := if a1 < 0 then True else (if 13 ≤ a1 then True else (if a2 < 0 then True else (if a2 < 9 then (vp_in ((a2 * 13) + a1) 117) else True)))
def sp_X2_isOpen_B48 (x2 : Int32) : Int32 := x2
def vc_X2_isOpen_B48 (x2 : Int32) : Prop := (x2 = 0 ∨ x2 = 1)
def sp_X2_isOpen_B47  : Int32 := sp_X2_isOpen_B48 0
def vc_X2_isOpen_B47  : Prop := vc_X2_isOpen_B48 0
def sp_X2_isOpen_B43  : Int32 := sp_X2_isOpen_B48 1
def vc_X2_isOpen_B43  : Prop := vc_X2_isOpen_B48 1
def sp_X2_isOpen_n1 (M : Mem) (b1 : Nat) (x1 : Int32) : Int32 := if x1 = 1 then sp_X2_isOpen_B47 else (if x1 = (-1) then sp_X2_isOpen_B47 else (if x1 = 4 then (if (gI M b1 5) = 0 then sp_X2_isOpen_B47 else sp_X2_isOpen_B43) else sp_X2_isOpen_B43))
def vc_X2_isOpen_n1 (M : Mem) (b1 : Nat) (x1 : Int32) : Prop := if x1 = 1 then vc_X2_isOpen_B47 else (if x1 = (-1) then vc_X2_isOpen_B47 else (if x1 = 4 then (if (gI M b1 5) = 0 then vc_X2_isOpen_B47 else vc_X2_isOpen_B43) else vc_X2_isOpen_B43))
def sp_X2_isOpen (M : Mem) (b1 : Nat) (a2 : Int32) : Int32 := sp_X2_isOpen_n1 M b1 (sp_X2_whatIs M (sp_X6_nextColumn (gI M b1 0) a2) (sp_X6_nextRow (gI M b1 1) a2))
def vc_X2_isOpen (M : Mem) (b1 : Nat) (a2 : Int32) : Prop := (vc_X2_whatIs M (sp_X6_nextColumn (gI M b1 0) a2) (sp_X6_nextRow (gI M b1 1) a2)) ∧ (vc_X2_isOpen_n1 M b1 (sp_X2_whatIs M (sp_X6_nextColumn (gI M b1 0) a2) (sp_X6_nextRow (gI M b1 1) a2)))
def sp_X6_opposite (a1 : Int32) : Int32 := a1 ^^^ 2
def sp_X1_turnAbout_B56 (M6 : Mem) : Mem := M6
def sp_X1_turnAbout_n1 (M2 : Mem) : Mem := sp_X1_turnAbout_B56 M2
def sp_X1_turnAbout_n2 (M5 : Mem) : Mem := sp_X1_turnAbout_B56 M5
def sp_X1_turnAbout_n3 (b1 : Nat) (M4 : Mem) : Mem := sp_X1_turnAbout_n2 (wF M4 b1 3 (FP.fsub FP.fconst1 (gF M4 b1 3)))
def vc_X1_turnAbout_n3 (b1 : Nat) (M4 : Mem) : Prop := (vf_n32 (FP.fsub FP.fconst1 (gF M4 b1 3)))
def sp_X1_turnAbout_n4 (b1 : Nat) (x1 : Int32) (M3 : Mem) : Mem := sp_X1_turnAbout_n3 b1 (wI M3 b1 2 x1)
def vc_X1_turnAbout_n4 (b1 : Nat) (x1 : Int32) (M3 : Mem) : Prop := vc_X1_turnAbout_n3 b1 (wI M3 b1 2 x1)
def sp_X1_turnAbout_n5 (M : Mem) (b1 : Nat) (x1 : Int32) : Mem := if (Op.cmpValue (FP.fcmp (gF M b1 3) FP.fconst0) .l) = 0 then (if (sp_X2_isOpen M b1 x1) = 0 then (sp_X1_turnAbout_B56 M) else (sp_X1_turnAbout_n1 (wI M b1 2 x1))) else (sp_X1_turnAbout_n4 b1 x1 (sp_X0_enterNextCell M b1))
def vc_X1_turnAbout_n5 (M : Mem) (b1 : Nat) (x1 : Int32) : Prop := if (Op.cmpValue (FP.fcmp (gF M b1 3) FP.fconst0) .l) = 0 then vc_X2_isOpen M b1 x1 else (vc_X1_turnAbout_n4 b1 x1 (sp_X0_enterNextCell M b1))
def sp_X1_turnAbout (M : Mem) (b1 : Nat) : Mem := sp_X1_turnAbout_n5 M b1 (sp_X6_opposite (gI M b1 2))
def vc_X1_turnAbout (M : Mem) (b1 : Nat) : Prop := vc_X1_turnAbout_n5 M b1 (sp_X6_opposite (gI M b1 2))
def sp_X1_frightenHunters_n1 (K : Int32 → Mem → Mem) (M7 : Mem) (x8 : Int32) : Mem := K x8 M7
def vc_X1_frightenHunters_n1 (KV : Int32 → Mem → Prop) (M7 : Mem) (x8 : Int32) : Prop := KV x8 M7
def sp_X1_frightenHunters_B63 (K : Int32 → Mem → Mem) (x3 : Int32) (M7 : Mem) : Mem := sp_X1_frightenHunters_n1 K M7 (x3 + 1)
def vc_X1_frightenHunters_B63 (KV : Int32 → Mem → Prop) (x3 : Int32) (M7 : Mem) : Prop := vc_X1_frightenHunters_n1 KV M7 (x3 + 1)
def sp_X1_frightenHunters_n2 (K : Int32 → Mem → Mem) (x3 : Int32) (M6 : Mem) : Mem := sp_X1_frightenHunters_B63 K x3 M6
def vc_X1_frightenHunters_n2 (KV : Int32 → Mem → Prop) (x3 : Int32) (M6 : Mem) : Prop := vc_X1_frightenHunters_B63 KV x3 M6
def sp_X1_frightenHunters_n3 (K : Int32 → Mem → Mem) (x3 : Int32) (M5 : Mem) : Mem := sp_X1_frightenHunters_n2 K x3 (sp_X1_turnAbout M5 (5 + x3.toNatClampNeg))
def vc_X1_frightenHunters_n3 (KV : Int32 → Mem → Prop) (x3 : Int32) (M5 : Mem) : Prop := vp_in x3 5 ∧ ((vc_X1_turnAbout M5 (5 + x3.toNatClampNeg)) ∧ (vc_X1_frightenHunters_n2 KV x3 (sp_X1_turnAbout M5 (5 + x3.toNatClampNeg))))
def sp_X1_frightenHunters_B26 : Nat → Int32 → Mem → Mem
  | 0, x3, M4 => M4
  | n + 1, x3, M4 => if 5 ≤ x3 then M4 else (if (gI M4 (5 + x3.toNatClampNeg) 5) = 0 then (sp_X1_frightenHunters_n3 (sp_X1_frightenHunters_B26 n) x3 (wI M4 (5 + x3.toNatClampNeg) 4 1)) else (sp_X1_frightenHunters_B63 (sp_X1_frightenHunters_B26 n) x3 M4))
def vc_X1_frightenHunters_B26 : Nat → Int32 → Mem → Prop
  | 0, _, _ => False
  | n + 1, x3, M4 => if 5 ≤ x3 then True else (vp_in x3 5 ∧ (if (gI M4 (5 + x3.toNatClampNeg) 5) = 0 then (vp_in x3 5 ∧ (vc_X1_frightenHunters_n3 (vc_X1_frightenHunters_B26 n) x3 (wI M4 (5 + x3.toNatClampNeg) 4 1))) else vc_X1_frightenHunters_B63 (vc_X1_frightenHunters_B26 n) x3 M4))
def sp_X1_frightenHunters_n4 (M2 : Mem) : Mem := sp_X1_frightenHunters_B26 6 1 M2
def vc_X1_frightenHunters_n4 (M2 : Mem) : Prop := vc_X1_frightenHunters_B26 6 1 M2
def sp_X1_frightenHunters_n5 (M1 : Mem) : Mem := sp_X1_frightenHunters_n4 (wI M1 1 8 0)
def vc_X1_frightenHunters_n5 (M1 : Mem) : Prop := vc_X1_frightenHunters_n4 (wI M1 1 8 0)
def sp_X1_frightenHunters (M : Mem) : Mem := sp_X1_frightenHunters_n5 (wI M 1 10 (sp_J9_max_7cf53 (100 - (15 * (gI M 1 7))) 10))
def vc_X1_frightenHunters (M : Mem) : Prop := vc_X1_frightenHunters_n5 (wI M 1 10 (sp_J9_max_7cf53 (100 - (15 * (gI M 1 7))) 10))
def sp_X2_eat_n1 (x1 : Int32) (M3 : Mem) : Int32 × Mem := (x1, M3)
def sp_X2_eat_n2 (x1 : Int32) (M2 : Mem) : Int32 × Mem := sp_X2_eat_n1 x1 (wI M2 2 1 ((gI M2 2 1) - 1))
def sp_X2_eat_B19 (M : Mem) (a1 : Int32) (a2 : Int32) (x1 : Int32) : Int32 × Mem := sp_X2_eat_n2 x1 (wI M 3 (((a2 * 13) + a1).toNatClampNeg) 0)
def vc_X2_eat_B19 (M : Mem) (a1 : Int32) (a2 : Int32) (x1 : Int32) : Prop := (vp_in ((a2 * 13) + a1) 117)
def sp_X2_eat_n3 (M : Mem) (a1 : Int32) (a2 : Int32) (x1 : Int32) : Int32 × Mem := if x1 = 2 then (sp_X2_eat_B19 M a1 a2 x1) else (if x1 = 3 then (sp_X2_eat_B19 M a1 a2 x1) else (0, M))
def vc_X2_eat_n3 (M : Mem) (a1 : Int32) (a2 : Int32) (x1 : Int32) : Prop := if x1 = 2 then vc_X2_eat_B19 M a1 a2 x1 else (if x1 = 3 then vc_X2_eat_B19 M a1 a2 x1 else True)
def sp_X2_eat (M : Mem) (a1 : Int32) (a2 : Int32) : Int32 × Mem := sp_X2_eat_n3 M a1 a2 (sp_X2_whatIs M a1 a2)
def vc_X2_eat (M : Mem) (a1 : Int32) (a2 : Int32) : Prop := vc_X2_whatIs M a1 a2 ∧ (vc_X2_eat_n3 M a1 a2 (sp_X2_whatIs M a1 a2))
def sp_X1_eatHere_B61 (M8 : Mem) : Mem := M8
def sp_X1_eatHere_n1 (M7 : Mem) : Mem := sp_X1_eatHere_B61 M7
def sp_X1_eatHere_n2 (M6 : Mem) : Mem := sp_X1_eatHere_n1 (sp_X1_addPoints M6 10)
def sp_X1_eatHere_n3 (M5 : Mem) : Mem := sp_X1_eatHere_B61 M5
def sp_X1_eatHere_n4 (M4 : Mem) : Mem := sp_X1_eatHere_n3 (sp_X1_frightenHunters M4)
def vc_X1_eatHere_n4 (M4 : Mem) : Prop := vc_X1_frightenHunters M4
def sp_X1_eatHere_n5 (M3 : Mem) : Mem := sp_X1_eatHere_n4 (sp_X1_addPoints M3 50)
def vc_X1_eatHere_n5 (M3 : Mem) : Prop := vc_X1_eatHere_n4 (sp_X1_addPoints M3 50)
def sp_X1_eatHere_n6 (M1 : Mem) (x2 : Int32) : Mem := if x2 = 2 then (sp_X1_eatHere_n2 (wI M1 1 13 1)) else (if x2 = 3 then (sp_X1_eatHere_n5 (wI M1 1 14 1)) else (sp_X1_eatHere_B61 M1))
def vc_X1_eatHere_n6 (M1 : Mem) (x2 : Int32) : Prop := if x2 = 2 then True else (if x2 = 3 then (vc_X1_eatHere_n5 (wI M1 1 14 1)) else True)
def sp_X1_eatHere (M : Mem) : Mem := sp_X1_eatHere_n6 ((sp_X2_eat M (gI M 5 0) (gI M 5 1)).2) ((sp_X2_eat M (gI M 5 0) (gI M 5 1)).1)
def vc_X1_eatHere (M : Mem) : Prop := (vc_X2_eat M (gI M 5 0) (gI M 5 1)) ∧ (vc_X1_eatHere_n6 ((sp_X2_eat M (gI M 5 0) (gI M 5 1)).2) ((sp_X2_eat M (gI M 5 0) (gI M 5 1)).1))
def sp_J9_min_7cf53_B10 (x1 : Int32) : Int32 := x1
def sp_J9_min_7cf53 (a1 : Int32) (a2 : Int32) : Int32 := if a2 < a1 then (sp_J9_min_7cf53_B10 a2) else (sp_J9_min_7cf53_B10 a1)
def sp_X1_eatHunter_n1 (M4 : Mem) : Mem := M4
def sp_X1_eatHunter_n2 (b1 : Nat) (M3 : Mem) : Mem := sp_X1_eatHunter_n1 (sp_X0_place M3 b1 6 4 0 30)
def vc_X1_eatHunter_n2 (b1 : Nat) (M3 : Mem) : Prop := vc_X0_place M3 b1 6 4 0 30
def sp_X1_eatHunter_n3 (b1 : Nat) (M2 : Mem) : Mem := sp_X1_eatHunter_n2 b1 (wI M2 1 8 (sp_J9_min_7cf53 ((gI M2 1 8) + 1) 3))
def vc_X1_eatHunter_n3 (b1 : Nat) (M2 : Mem) : Prop := vc_X1_eatHunter_n2 b1 (wI M2 1 8 (sp_J9_min_7cf53 ((gI M2 1 8) + 1) 3))
def sp_X1_eatHunter_n4 (b1 : Nat) (M1 : Mem) : Mem := sp_X1_eatHunter_n3 b1 (sp_X1_addPoints M1 (200 <<< ((gI M1 1 8) &&& 31)))
def vc_X1_eatHunter_n4 (b1 : Nat) (M1 : Mem) : Prop := vc_X1_eatHunter_n3 b1 (sp_X1_addPoints M1 (200 <<< ((gI M1 1 8) &&& 31)))
def sp_X1_eatHunter (M : Mem) (b1 : Nat) : Mem := sp_X1_eatHunter_n4 b1 (wI M 1 14 1)
def vc_X1_eatHunter (M : Mem) (b1 : Nat) : Prop := vc_X1_eatHunter_n4 b1 (wI M 1 14 1)
def sp_X1_loseLife_B34 (M5 : Mem) : Mem := M5
def sp_X1_loseLife_n1 (M4 : Mem) : Mem := sp_X1_loseLife_B34 M4
def sp_X1_loseLife_n2 (M3 : Mem) : Mem := sp_X1_loseLife_B34 M3
def sp_X1_loseLife_n3 (M2 : Mem) : Mem := if (gI M2 1 6) = 0 then (sp_X1_loseLife_n1 (wI M2 1 3 0)) else (sp_X1_loseLife_n2 (sp_X1_placeActors M2))
def vc_X1_loseLife_n3 (M2 : Mem) : Prop := if (gI M2 1 6) = 0 then True else vc_X1_placeActors M2
def sp_X1_loseLife_n4 (M1 : Mem) : Mem := sp_X1_loseLife_n3 (wI M1 1 6 ((gI M1 1 6) - 1))
def vc_X1_loseLife_n4 (M1 : Mem) : Prop := vc_X1_loseLife_n3 (wI M1 1 6 ((gI M1 1 6) - 1))
def sp_X1_loseLife (M : Mem) : Mem := sp_X1_loseLife_n4 (wI M 1 15 1)
def vc_X1_loseLife (M : Mem) : Prop := vc_X1_loseLife_n4 (wI M 1 15 1)
def sp_X1_meetHunters_B60 (M2 : Mem) : Mem := M2
def sp_X1_meetHunters_n1 (K : Int32 → Mem → Mem) (M5 : Mem) (x6 : Int32) : Mem := K x6 M5
def vc_X1_meetHunters_n1 (KV : Int32 → Mem → Prop) (M5 : Mem) (x6 : Int32) : Prop := KV x6 M5
def sp_X1_meetHunters_B54 (K : Int32 → Mem → Mem) (x1 : Int32) (M5 : Mem) : Mem := sp_X1_meetHunters_n1 K M5 (x1 + 1)
def vc_X1_meetHunters_B54 (KV : Int32 → Mem → Prop) (x1 : Int32) (M5 : Mem) : Prop := vc_X1_meetHunters_n1 KV M5 (x1 + 1)
def sp_X1_meetHunters_n2 (K : Int32 → Mem → Mem) (x1 : Int32) (M3 : Mem) : Mem := sp_X1_meetHunters_B54 K x1 M3
def vc_X1_meetHunters_n2 (KV : Int32 → Mem → Prop) (x1 : Int32) (M3 : Mem) : Prop := vc_X1_meetHunters_B54 KV x1 M3
def sp_X1_meetHunters_n3 (K : Int32 → Mem → Mem) (x1 : Int32) (M4 : Mem) : Mem := sp_X1_meetHunters_B54 K x1 M4
def vc_X1_meetHunters_n3 (KV : Int32 → Mem → Prop) (x1 : Int32) (M4 : Mem) : Prop := vc_X1_meetHunters_B54 KV x1 M4
def sp_X1_meetHunters_B2 : Nat → Int32 → Mem → Mem
  | 0, x1, M2 => M2
  | n + 1, x1, M2 => if 5 ≤ x1 then (sp_X1_meetHunters_B60 M2) else (if (gI M2 1 15) = 0 then (if (sp_X0_meets M2 (5 + x1.toNatClampNeg) 5) = 0 then (sp_X1_meetHunters_B54 (sp_X1_meetHunters_B2 n) x1 M2) else (if (gI M2 (5 + x1.toNatClampNeg) 4) = 0 then (sp_X1_meetHunters_n2 (sp_X1_meetHunters_B2 n) x1 (sp_X1_loseLife M2)) else (sp_X1_meetHunters_n3 (sp_X1_meetHunters_B2 n) x1 (sp_X1_eatHunter M2 (5 + x1.toNatClampNeg))))) else (sp_X1_meetHunters_B60 M2))
def vc_X1_meetHunters_B2 : Nat → Int32 → Mem → Prop
  | 0, _, _ => False
  | n + 1, x1, M2 => if 5 ≤ x1 then True else (if (gI M2 1 15) = 0 then (vp_in x1 5 ∧ ((vc_X0_meets M2 (5 + x1.toNatClampNeg) 5) ∧ (if (sp_X0_meets M2 (5 + x1.toNatClampNeg) 5) = 0 then vc_X1_meetHunters_B54 (vc_X1_meetHunters_B2 n) x1 M2 else (if (gI M2 (5 + x1.toNatClampNeg) 4) = 0 then (vc_X1_loseLife M2 ∧ (vc_X1_meetHunters_n2 (vc_X1_meetHunters_B2 n) x1 (sp_X1_loseLife M2))) else ((vc_X1_eatHunter M2 (5 + x1.toNatClampNeg)) ∧ (vc_X1_meetHunters_n3 (vc_X1_meetHunters_B2 n) x1 (sp_X1_eatHunter M2 (5 + x1.toNatClampNeg)))))))) else True)
def sp_X1_meetHunters (M : Mem) : Mem := sp_X1_meetHunters_B2 6 1 M
def vc_X1_meetHunters (M : Mem) : Prop := vc_X1_meetHunters_B2 6 1 M
def sp_X1_drawNumber_n1 (M1 : Mem) : Int32 × Mem := (((gI M1 1 12) >>> (16 &&& 31)) &&& 3, M1)
def sp_X1_drawNumber (M : Mem) : Int32 × Mem := sp_X1_drawNumber_n1 (wI M 1 12 (((gI M 1 12) * 1103515245) + 12345))
def sp_X1_firstOpenFrom_n1 (K : Mem → Int32 → Nat → Int32 → Int32 → Int32) (M : Mem) (a1 : Int32) (b2 : Nat) (x1 : Int32) (x4 : Int32) : Int32 := K M a1 b2 x1 x4
def vc_X1_firstOpenFrom_n1 (KV : Mem → Int32 → Nat → Int32 → Int32 → Prop) (M : Mem) (a1 : Int32) (b2 : Nat) (x1 : Int32) (x4 : Int32) : Prop := KV M a1 b2 x1 x4
def sp_X1_firstOpenFrom_B47 (K : Mem → Int32 → Nat → Int32 → Int32 → Int32) (M : Mem) (a1 : Int32) (b2 : Nat) (x1 : Int32) (x2 : Int32) : Int32 := sp_X1_firstOpenFrom_n1 K M a1 b2 x1 (x2 + 1)
def vc_X1_firstOpenFrom_B47 (KV : Mem → Int32 → Nat → Int32 → Int32 → Prop) (M : Mem) (a1 : Int32) (b2 : Nat) (x1 : Int32) (x2 : Int32) : Prop := vc_X1_firstOpenFrom_n1 KV M a1 b2 x1 (x2 + 1)
def sp_X1_firstOpenFrom_n2 (K : Mem → Int32 → Nat → Int32 → Int32 → Int32) (M : Mem) (a1 : Int32) (b2 : Nat) (x1 : Int32) (x2 : Int32) (x3 : Int32) : Int32 := if x3 = x1 then (sp_X1_firstOpenFrom_B47 K M a1 b2 x1 x2) else (if (sp_X2_isOpen M b2 x3) = 0 then (sp_X1_firstOpenFrom_B47 K M a1 b2 x1 x2) else x3)
def vc_X1_firstOpenFrom_n2 (KV : Mem → Int32 → Nat → Int32 → Int32 → Prop) (M : Mem) (a1 : Int32) (b2 : Nat) (x1 : Int32) (x2 : Int32) (x3 : Int32) : Prop := if x3 = x1 then vc_X1_firstOpenFrom_B47 KV M a1 b2 x1 x2 else (vc_X2_isOpen M b2 x3 ∧ (if (sp_X2_isOpen M b2 x3) = 0 then vc_X1_firstOpenFrom_B47 KV M a1 b2 x1 x2 else True))
def sp_X1_firstOpenFrom_B11 : Nat → Mem → Int32 → Nat → Int32 → Int32 → Int32
  | 0, M, a1, b2, x1, x2 => 0
  | n + 1, M, a1, b2, x1, x2 => if 4 ≤ x2 then x1 else (sp_X1_firstOpenFrom_n2 (sp_X1_firstOpenFrom_B11 n) M a1 b2 x1 x2 ((a1 + x2) - (a1 + x2) / 4 * 4))
def vc_X1_firstOpenFrom_B11 : Nat → Mem → Int32 → Nat → Int32 → Int32 → Prop
  | 0, _, _, _, _, _ => False
  | n + 1, M, a1, b2, x1, x2 => if 4 ≤ x2 then True else (vc_X1_firstOpenFrom_n2 (vc_X1_firstOpenFrom_B11 n) M a1 b2 x1 x2 ((a1 + x2) - (a1 + x2) / 4 * 4))
def sp_X1_firstOpenFrom_n3 (M : Mem) (a1 : Int32) (b2 : Nat) (x1 : Int32) : Int32 := sp_X1_firstOpenFrom_B11 6 M a1 b2 x1 0
def vc_X1_firstOpenFrom_n3 (M : Mem) (a1 : Int32) (b2 : Nat) (x1 : Int32) : Prop := vc_X1_firstOpenFrom_B11 6 M a1 b2 x1 0
def sp_X1_firstOpenFrom (M : Mem) (a1 : Int32) (b2 : Nat) : Int32 := sp_X1_firstOpenFrom_n3 M a1 b2 (sp_X6_opposite (gI M b2 2))
def vc_X1_firstOpenFrom (M : Mem) (a1 : Int32) (b2 : Nat) : Prop := vc_X1_firstOpenFrom_n3 M a1 b2 (sp_X6_opposite (gI M b2 2))
def sp_X6_distance_n1 (x1 : Int32) (x2 : Int32) : Int32 := (x1 * x1) + (x2 * x2)
def sp_X6_distance_n2 (a2 : Int32) (a4 : Int32) (x1 : Int32) : Int32 := sp_X6_distance_n1 x1 (a2 - a4)
def sp_X6_distance (a1 : Int32) (a2 : Int32) (a3 : Int32) (a4 : Int32) : Int32 := sp_X6_distance_n2 a2 a4 (a1 - a3)
def sp_X1_nearestToAim_n1 (K : Mem → Nat → Int32 → Int32 → Int32 → Int32 → Int32) (M : Mem) (b1 : Nat) (x1 : Int32) (x8 : Int32) (x9 : Int32) (x10 : Int32) : Int32 := K M b1 x1 x8 x9 x10
def vc_X1_nearestToAim_n1 (KV : Mem → Nat → Int32 → Int32 → Int32 → Int32 → Prop) (M : Mem) (b1 : Nat) (x1 : Int32) (x8 : Int32) (x9 : Int32) (x10 : Int32) : Prop := KV M b1 x1 x8 x9 x10
def sp_X1_nearestToAim_B98 (K : Mem → Nat → Int32 → Int32 → Int32 → Int32 → Int32) (M : Mem) (b1 : Nat) (x1 : Int32) (x4 : Int32) (x8 : Int32) (x9 : Int32) : Int32 := sp_X1_nearestToAim_n1 K M b1 x1 x8 x9 (x4 + 1)
def vc_X1_nearestToAim_B98 (KV : Mem → Nat → Int32 → Int32 → Int32 → Int32 → Prop) (M : Mem) (b1 : Nat) (x1 : Int32) (x4 : Int32) (x8 : Int32) (x9 : Int32) : Prop := vc_X1_nearestToAim_n1 KV M b1 x1 x8 x9 (x4 + 1)
def sp_X1_nearestToAim_n2 (K : Mem → Nat → Int32 → Int32 → Int32 → Int32 → Int32) (M : Mem) (b1 : Nat) (x1 : Int32) (x2 : Int32) (x3 : Int32) (x4 : Int32) (x7 : Int32) : Int32 := if x3 ≤ x7 then (sp_X1_nearestToAim_B98 K M b1 x1 x4 x2 x3) else (sp_X1_nearestToAim_B98 K M b1 x1 x4 x4 x7)
def vc_X1_nearestToAim_n2 (KV : Mem → Nat → Int32 → Int32 → Int32 → Int32 → Prop) (M : Mem) (b1 : Nat) (x1 : Int32) (x2 : Int32) (x3 : Int32) (x4 : Int32) (x7 : Int32) : Prop := if x3 ≤ x7 then vc_X1_nearestToAim_B98 KV M b1 x1 x4 x2 x3 else vc_X1_nearestToAim_B98 KV M b1 x1 x4 x4 x7
def sp_X1_nearestToAim_n3 (K : Mem → Nat → Int32 → Int32 → Int32 → Int32 → Int32) (M : Mem) (b1 : Nat) (x1 : Int32) (x2 : Int32) (x3 : Int32) (x4 : Int32) (x5 : Int32) (x6 : Int32) : Int32 := sp_X1_nearestToAim_n2 K M b1 x1 x2 x3 x4 (sp_X6_distance x5 x6 (gI M b1 9) (gI M b1 10))
def vc_X1_nearestToAim_n3 (KV : Mem → Nat → Int32 → Int32 → Int32 → Int32 → Prop) (M : Mem) (b1 : Nat) (x1 : Int32) (x2 : Int32) (x3 : Int32) (x4 : Int32) (x5 : Int32) (x6 : Int32) : Prop := vc_X1_nearestToAim_n2 KV M b1 x1 x2 x3 x4 (sp_X6_distance x5 x6 (gI M b1 9) (gI M b1 10))
def sp_X1_nearestToAim_n4 (K : Mem → Nat → Int32 → Int32 → Int32 → Int32 → Int32) (M : Mem) (b1 : Nat) (x1 : Int32) (x2 : Int32) (x3 : Int32) (x4 : Int32) (x5 : Int32) : Int32 := sp_X1_nearestToAim_n3 K M b1 x1 x2 x3 x4 x5 (sp_X6_nextRow (gI M b1 1) x4)
def vc_X1_nearestToAim_n4 (KV : Mem → Nat → Int32 → Int32 → Int32 → Int32 → Prop) (M : Mem) (b1 : Nat) (x1 : Int32) (x2 : Int32) (x3 : Int32) (x4 : Int32) (x5 : Int32) : Prop := vc_X1_nearestToAim_n3 KV M b1 x1 x2 x3 x4 x5 (sp_X6_nextRow (gI M b1 1) x4)
def sp_X1_nearestToAim_B17 : Nat → Mem → Nat → Int32 → Int32 → Int32 → Int32 → Int32
  | 0, M, b1, x1, x2, x3, x4 => 0
  | n + 1, M, b1, x1, x2, x3, x4 => if 4 ≤ x4 then x2 else (if x4 = x1 then (sp_X1_nearestToAim_B98 (sp_X1_nearestToAim_B17 n) M b1 x1 x4 x2 x3) else (if (sp_X2_isOpen M b1 x4) = 0 then (sp_X1_nearestToAim_B98 (sp_X1_nearestToAim_B17 n) M b1 x1 x4 x2 x3) else (sp_X1_nearestToAim_n4 (sp_X1_nearestToAim_B17 n) M b1 x1 x2 x3 x4 (sp_X6_nextColumn (gI M b1 0) x4))))
def vc_X1_nearestToAim_B17 : Nat → Mem → Nat → Int32 → Int32 → Int32 → Int32 → Prop
  | 0, _, _, _, _, _, _ => False
  | n + 1, M, b1, x1, x2, x3, x4 => if 4 ≤ x4 then True else (if x4 = x1 then vc_X1_nearestToAim_B98 (vc_X1_nearestToAim_B17 n) M b1 x1 x4 x2 x3 else (vc_X2_isOpen M b1 x4 ∧ (if (sp_X2_isOpen M b1 x4) = 0 then vc_X1_nearestToAim_B98 (vc_X1_nearestToAim_B17 n) M b1 x1 x4 x2 x3 else (vc_X1_nearestToAim_n4 (vc_X1_nearestToAim_B17 n) M b1 x1 x2 x3 x4 (sp_X6_nextColumn (gI M b1 0) x4)))))
def sp_X1_nearestToAim_n5 (M : Mem) (b1 : Nat) (x1 : Int32) : Int32 := sp_X1_nearestToAim_B17 6 M b1 x1 x1 2147483647 0
def vc_X1_nearestToAim_n5 (M : Mem) (b1 : Nat) (x1 : Int32) : Prop := vc_X1_nearestToAim_B17 6 M b1 x1 x1 2147483647 0
def sp_X1_nearestToAim (M : Mem) (b1 : Nat) : Int32 := sp_X1_nearestToAim_n5 M b1 (sp_X6_opposite (gI M b1 2))
def vc_X1_nearestToAim (M : Mem) (b1 : Nat) : Prop := vc_X1_nearestToAim_n5 M b1 (sp_X6_opposite (gI M b1 2))
def sp_X6_columnStep_B19 (x1 : Int32) : Int32 := x1
def sp_X6_columnStep (a1 : Int32) : Int32 := if a1 = 1 then (sp_X6_columnStep_B19 (-1)) else (if a1 = 3 then (sp_X6_columnStep_B19 1) else (sp_X6_columnStep_B19 0))
def sp_X6_rowStep_B18 (x1 : Int32) : Int32 := x1
def sp_X6_rowStep (a1 : Int32) : Int32 := if a1 = 0 then (sp_X6_rowStep_B18 (-1)) else (if a1 = 2 then (sp_X6_rowStep_B18 1) else (sp_X6_rowStep_B18 0))
def sp_X1_aimAtPlayer_B131 (M6 : Mem) : Mem := M6
def sp_X1_aimAtPlayer_n1 (M5 : Mem) : Mem := sp_X1_aimAtPlayer_B131 M5
def sp_X1_aimAtPlayer_n2 (M4 : Mem) : Mem := sp_X1_aimAtPlayer_B131 M4
def sp_X1_aimAtPlayer_n3 (M3 : Mem) : Mem := sp_X1_aimAtPlayer_B131 M3
def sp_X1_aimAtPlayer_n4 (M : Mem) (b1 : Nat) (a2 : Int32) (x1 : Int32) (x2 : Int32) : Mem := if a2 = 2 then (sp_X1_aimAtPlayer_n1 (sp_X0_aimAt M b1 ((gI M 5 0) + (2 * x1)) ((gI M 5 1) + (2 * x2)))) else (if a2 = 3 then (sp_X1_aimAtPlayer_n2 (sp_X0_aimAt M b1 ((2 * ((gI M 5 0) + x1)) - (gI M 6 0)) ((2 * ((gI M 5 1) + x2)) - (gI M 6 1)))) else (sp_X1_aimAtPlayer_n3 (sp_X0_aimAt M b1 (gI M 5 0) (gI M 5 1))))
def sp_X1_aimAtPlayer_n5 (M : Mem) (b1 : Nat) (a2 : Int32) (x1 : Int32) : Mem := sp_X1_aimAtPlayer_n4 M b1 a2 x1 (sp_X6_rowStep (gI M 5 2))
def sp_X1_aimAtPlayer (M : Mem) (b1 : Nat) (a2 : Int32) : Mem := sp_X1_aimAtPlayer_n5 M b1 a2 (sp_X6_columnStep (gI M 5 2))
def sp_X1_isNearPlayer_B35 (x1 : Int32) : Int32 := x1
def vc_X1_isNearPlayer_B35 (x1 : Int32) : Prop := (x1 = 0 ∨ x1 = 1)
def sp_X1_isNearPlayer (M : Mem) (b1 : Nat) : Int32 := if 9 ≤ (sp_X6_distance (gI M b1 0) (gI M b1 1) (gI M 5 0) (gI M 5 1)) then (sp_X1_isNearPlayer_B35 0) else (sp_X1_isNearPlayer_B35 1)
def vc_X1_isNearPlayer (M : Mem) (b1 : Nat) : Prop := if 9 ≤ (sp_X6_distance (gI M b1 0) (gI M b1 1) (gI M 5 0) (gI M 5 1)) then vc_X1_isNearPlayer_B35 0 else vc_X1_isNearPlayer_B35 1
def sp_X1_isScatter_B54 (x1 : Int32) : Int32 := x1
def vc_X1_isScatter_B54 (x1 : Int32) : Prop := (x1 = 0 ∨ x1 = 1)
def sp_X1_isScatter_B53  : Int32 := sp_X1_isScatter_B54 0
def vc_X1_isScatter_B53  : Prop := vc_X1_isScatter_B54 0
def sp_X1_isScatter_B49  : Int32 := sp_X1_isScatter_B54 1
def vc_X1_isScatter_B49  : Prop := vc_X1_isScatter_B54 1
def sp_X1_isScatter_B29 (M : Mem) : Int32 := if (gI M 1 11) < 600 then sp_X1_isScatter_B53 else (if 659 < (gI M 1 11) then sp_X1_isScatter_B53 else sp_X1_isScatter_B49)
def vc_X1_isScatter_B29 (M : Mem) : Prop := if (gI M 1 11) < 600 then vc_X1_isScatter_B53 else (if 659 < (gI M 1 11) then vc_X1_isScatter_B53 else vc_X1_isScatter_B49)
def sp_X1_isScatter (M : Mem) : Int32 := if (gI M 1 11) < 100 then sp_X1_isScatter_B49 else (if (gI M 1 11) < 300 then (sp_X1_isScatter_B29 M) else (if (gI M 1 11) ≤ 379 then sp_X1_isScatter_B49 else (sp_X1_isScatter_B29 M)))
def vc_X1_isScatter (M : Mem) : Prop := if (gI M 1 11) < 100 then vc_X1_isScatter_B49 else (if (gI M 1 11) < 300 then vc_X1_isScatter_B29 M else (if (gI M 1 11) ≤ 379 then vc_X1_isScatter_B49 else vc_X1_isScatter_B29 M))
def sp_X1_setAim_B77 (M6 : Mem) : Mem := M6
def sp_X1_setAim_n1 (M5 : Mem) : Mem := sp_X1_setAim_B77 M5
def sp_X1_setAim_B71 (M : Mem) (b1 : Nat) (a2 : Int32) : Mem := sp_X1_setAim_n1 (sp_X1_aimAtPlayer M b1 a2)
def sp_X1_setAim_n2 (M4 : Mem) : Mem := sp_X1_setAim_B77 M4
def sp_X1_setAim_B65 (M : Mem) (b1 : Nat) (x2 : Int32) (x3 : Int32) : Mem := sp_X1_setAim_n2 (sp_X0_aimAt M b1 x2 x3)
def sp_X1_setAim_B54 (M : Mem) (b1 : Nat) (a2 : Int32) (x2 : Int32) : Mem := if 2 < a2 then (sp_X1_setAim_B65 M b1 x2 7) else (sp_X1_setAim_B65 M b1 x2 1)
def sp_X1_setAim_B48 (M : Mem) (b1 : Nat) (a2 : Int32) : Mem := sp_X1_setAim_B54 M b1 a2 11
def sp_X1_setAim_B37 (M : Mem) (b1 : Nat) (a2 : Int32) : Mem := if a2 = 1 then (sp_X1_setAim_B48 M b1 a2) else (if a2 = 3 then (sp_X1_setAim_B48 M b1 a2) else (sp_X1_setAim_B54 M b1 a2 1))
def sp_X1_setAim_n3 (M1 : Mem) : Mem := sp_X1_setAim_B77 M1
def sp_X1_setAim (M : Mem) (b1 : Nat) (a2 : Int32) : Mem := if (gI M b1 5) = 0 then (if (sp_X1_isScatter M) = 0 then (if a2 = 4 then (if (sp_X1_isNearPlayer M b1) = 0 then (sp_X1_setAim_B71 M b1 a2) else (sp_X1_setAim_B37 M b1 a2)) else (sp_X1_setAim_B71 M b1 a2)) else (sp_X1_setAim_B37 M b1 a2)) else (sp_X1_setAim_n3 (sp_X0_aimAt M b1 6 2))
def vc_X1_setAim (M : Mem) (b1 : Nat) (a2 : Int32) : Prop := if (gI M b1 5) = 0 then (vc_X1_isScatter M ∧ (if (sp_X1_isScatter M) = 0 then (if a2 = 4 then vc_X1_isNearPlayer M b1 else True) else True)) else True
def sp_X1_chooseDirection_B38 (M6 : Mem) : Mem := M6
def sp_X1_chooseDirection_n1 (M2 : Mem) : Mem := sp_X1_chooseDirection_B38 M2
def sp_X1_chooseDirection_n2 (b1 : Nat) (M1 : Mem) : Mem := sp_X1_chooseDirection_n1 (wI M1 b1 2 (sp_X1_nearestToAim M1 b1))
def vc_X1_chooseDirection_n2 (b1 : Nat) (M1 : Mem) : Prop := vc_X1_nearestToAim M1 b1
def sp_X1_chooseDirection_n3 (M5 : Mem) : Mem := sp_X1_chooseDirection_B38 M5
def sp_X1_chooseDirection_n4 (b1 : Nat) (M3 : Mem) (x4 : Int32) : Mem := sp_X1_chooseDirection_n3 (wI M3 b1 2 (sp_X1_firstOpenFrom M3 x4 b1))
def vc_X1_chooseDirection_n4 (b1 : Nat) (M3 : Mem) (x4 : Int32) : Prop := vc_X1_firstOpenFrom M3 x4 b1
def sp_X1_chooseDirection (M : Mem) (b1 : Nat) (a2 : Int32) : Mem := if (gI M b1 4) = 0 then (sp_X1_chooseDirection_n2 b1 (sp_X1_setAim M b1 a2)) else (sp_X1_chooseDirection_n4 b1 ((sp_X1_drawNumber M).2) ((sp_X1_drawNumber M).1))
def vc_X1_chooseDirection (M : Mem) (b1 : Nat) (a2 : Int32) : Prop := if (gI M b1 4) = 0 then (vc_X1_setAim M b1 a2 ∧ (vc_X1_chooseDirection_n2 b1 (sp_X1_setAim M b1 a2))) else (vc_X1_chooseDirection_n4 b1 ((sp_X1_drawNumber M).2) ((sp_X1_drawNumber M).1))
def sp_X1_moveHunter_n1 (M11 : Mem) : Mem := M11
def sp_X1_moveHunter_B118 (a1 : Int32) (M10 : Mem) : Mem := sp_X1_moveHunter_n1 (sp_X1_chooseDirection M10 (5 + a1.toNatClampNeg) a1)
def vc_X1_moveHunter_B118 (a1 : Int32) (M10 : Mem) : Prop := (vc_X1_chooseDirection M10 (5 + a1.toNatClampNeg) a1)
def sp_X1_moveHunter_n2 (a1 : Int32) (M9 : Mem) : Mem := sp_X1_moveHunter_B118 a1 M9
def vc_X1_moveHunter_n2 (a1 : Int32) (M9 : Mem) : Prop := vc_X1_moveHunter_B118 a1 M9
def sp_X1_moveHunter_n3 (a1 : Int32) (M8 : Mem) : Mem := if (sp_X0_isAt M8 (5 + a1.toNatClampNeg) 6 2) = 0 then (sp_X1_moveHunter_B118 a1 M8) else (sp_X1_moveHunter_n2 a1 (wI M8 (5 + a1.toNatClampNeg) 5 0))
def vc_X1_moveHunter_n3 (a1 : Int32) (M8 : Mem) : Prop := (vc_X0_isAt M8 (5 + a1.toNatClampNeg) 6 2) ∧ (if (sp_X0_isAt M8 (5 + a1.toNatClampNeg) 6 2) = 0 then vc_X1_moveHunter_B118 a1 M8 else (vc_X1_moveHunter_n2 a1 (wI M8 (5 + a1.toNatClampNeg) 5 0)))
def sp_X1_moveHunter_n4 (a1 : Int32) (M7 : Mem) : Mem := sp_X1_moveHunter_n3 a1 (wF M7 (5 + a1.toNatClampNeg) 3 (FP.fsub (gF M7 (5 + a1.toNatClampNeg) 3) FP.fconst1))
def vc_X1_moveHunter_n4 (a1 : Int32) (M7 : Mem) : Prop := (vf_n32 (FP.fsub (gF M7 (5 + a1.toNatClampNeg) 3) FP.fconst1)) ∧ (vc_X1_moveHunter_n3 a1 (wF M7 (5 + a1.toNatClampNeg) 3 (FP.fsub (gF M7 (5 + a1.toNatClampNeg) 3) FP.fconst1)))
def sp_X1_moveHunter_n5 (a1 : Int32) (M6 : Mem) : Mem := if 0 ≤ (Op.cmpValue (FP.fcmp (gF M6 (5 + a1.toNatClampNeg) 3) FP.fconst1) .g) then (sp_X1_moveHunter_n4 a1 (sp_X0_enterNextCell M6 (5 + a1.toNatClampNeg))) else M6
def vc_X1_moveHunter_n5 (a1 : Int32) (M6 : Mem) : Prop := if 0 ≤ (Op.cmpValue (FP.fcmp (gF M6 (5 + a1.toNatClampNeg) 3) FP.fconst1) .g) then (vc_X1_moveHunter_n4 a1 (sp_X0_enterNextCell M6 (5 + a1.toNatClampNeg))) else True
def sp_X1_moveHunter_B75 (M : Mem) (a1 : Int32) (f5 : UInt32) : Mem := sp_X1_moveHunter_n5 a1 (wF M (5 + a1.toNatClampNeg) 3 (FP.fadd (gF M (5 + a1.toNatClampNeg) 3) f5))
def vc_X1_moveHunter_B75 (M : Mem) (a1 : Int32) (f5 : UInt32) : Prop := (vf_n32 (FP.fadd (gF M (5 + a1.toNatClampNeg) 3) f5)) ∧ (vc_X1_moveHunter_n5 a1 (wF M (5 + a1.toNatClampNeg) 3 (FP.fadd (gF M (5 + a1.toNatClampNeg) 3) f5)))
def sp_X1_moveHunter_B37 (M4 : Mem) : Mem := M4
def sp_X1_moveHunter_n6 (M : Mem) (a1 : Int32) (f1 : UInt32) : Mem := if (gI M (5 + a1.toNatClampNeg) 4) = 0 then (sp_X1_moveHunter_B75 M a1 f1) else (sp_X1_moveHunter_B75 M a1 (FP.fdiv f1 FP.fconst2))
def vc_X1_moveHunter_n6 (M : Mem) (a1 : Int32) (f1 : UInt32) : Prop := if (gI M (5 + a1.toNatClampNeg) 4) = 0 then vc_X1_moveHunter_B75 M a1 f1 else ((vf_n32 (FP.fdiv f1 FP.fconst2)) ∧ (vc_X1_moveHunter_B75 M a1 (FP.fdiv f1 FP.fconst2)))
def sp_X1_moveHunter_n7 (M3 : Mem) : Mem := sp_X1_moveHunter_B37 M3
def sp_X1_moveHunter_n8 (a1 : Int32) (M2 : Mem) : Mem := if (gI M2 (5 + a1.toNatClampNeg) 6) = 0 then (sp_X1_moveHunter_n7 (sp_X1_chooseDirection M2 (5 + a1.toNatClampNeg) a1)) else (sp_X1_moveHunter_B37 M2)
def vc_X1_moveHunter_n8 (a1 : Int32) (M2 : Mem) : Prop := if (gI M2 (5 + a1.toNatClampNeg) 6) = 0 then (vc_X1_chooseDirection M2 (5 + a1.toNatClampNeg) a1) else True
def sp_X1_moveHunter (M : Mem) (a1 : Int32) : Mem := if (gI M (5 + a1.toNatClampNeg) 6) ≤ 0 then (sp_X1_moveHunter_n6 M a1 (FP.fmul 1044549468 (FP.fadd FP.fconst1 (FP.fmul 1025758986 (FP.i2f (sp_J9_min_7cf53 (gI M 1 7) 5)))))) else (sp_X1_moveHunter_n8 a1 (wI M (5 + a1.toNatClampNeg) 6 ((gI M (5 + a1.toNatClampNeg) 6) - 1)))
def vc_X1_moveHunter (M : Mem) (a1 : Int32) : Prop := vp_in a1 5 ∧ (if (gI M (5 + a1.toNatClampNeg) 6) ≤ 0 then ((vf_n32 (FP.fmul 1025758986 (FP.i2f (sp_J9_min_7cf53 (gI M 1 7) 5)))) ∧ ((vf_n32 (FP.fadd FP.fconst1 (FP.fmul 1025758986 (FP.i2f (sp_J9_min_7cf53 (gI M 1 7) 5))))) ∧ ((vf_n32 (FP.fmul 1044549468 (FP.fadd FP.fconst1 (FP.fmul 1025758986 (FP.i2f (sp_J9_min_7cf53 (gI M 1 7) 5)))))) ∧ (vc_X1_moveHunter_n6 M a1 (FP.fmul 1044549468 (FP.fadd FP.fconst1 (FP.fmul 1025758986 (FP.i2f (sp_J9_min_7cf53 (gI M 1 7) 5))))))))) else (vc_X1_moveHunter_n8 a1 (wI M (5 + a1.toNatClampNeg) 6 ((gI M (5 + a1.toNatClampNeg) 6) - 1))))
def sp_X1_isStickOpen_B25 (x1 : Int32) : Int32 := x1
def vc_X1_isStickOpen_B25 (x1 : Int32) : Prop := (x1 = 0 ∨ x1 = 1)
def sp_X1_isStickOpen_B24  : Int32 := sp_X1_isStickOpen_B25 0
def vc_X1_isStickOpen_B24  : Prop := vc_X1_isStickOpen_B25 0
def sp_X1_isStickOpen (M : Mem) (a1 : Int32) : Int32 := if a1 = (-1) then sp_X1_isStickOpen_B24 else (if (sp_X2_isOpen M 5 a1) = 0 then sp_X1_isStickOpen_B24 else (sp_X1_isStickOpen_B25 1))
def vc_X1_isStickOpen (M : Mem) (a1 : Int32) : Prop := if a1 = (-1) then vc_X1_isStickOpen_B24 else (vc_X2_isOpen M 5 a1 ∧ (if (sp_X2_isOpen M 5 a1) = 0 then vc_X1_isStickOpen_B24 else vc_X1_isStickOpen_B25 1))
def sp_X1_movePlayer_B165 (M8 : Mem) : Int32 × Mem := (1, M8)
def sp_X1_movePlayer_n1 (M7 : Mem) : Int32 × Mem := sp_X1_movePlayer_B165 M7
def sp_X1_movePlayer_B157 (M5 : Mem) : Int32 × Mem := sp_X1_movePlayer_n1 (wF M5 5 3 FP.fconst0)
def sp_X1_movePlayer_n2 (M6 : Mem) : Int32 × Mem := (0, M6)
def sp_X1_movePlayer_n3 (a1 : Int32) (M5 : Mem) : Int32 × Mem := if (sp_X2_isOpen M5 5 (gI M5 5 2)) = 0 then (sp_X1_movePlayer_B157 M5) else (if (sp_X1_isStickOpen M5 a1) = 0 then (sp_X1_movePlayer_B165 M5) else (sp_X1_movePlayer_B157 M5))
def vc_X1_movePlayer_n3 (a1 : Int32) (M5 : Mem) : Prop := (vc_X2_isOpen M5 5 (gI M5 5 2)) ∧ (if (sp_X2_isOpen M5 5 (gI M5 5 2)) = 0 then True else vc_X1_isStickOpen M5 a1)
def sp_X1_movePlayer_n4 (a1 : Int32) (M4 : Mem) : Int32 × Mem := sp_X1_movePlayer_n3 a1 (wF M4 5 3 (FP.fsub (gF M4 5 3) FP.fconst1))
def vc_X1_movePlayer_n4 (a1 : Int32) (M4 : Mem) : Prop := (vf_n32 (FP.fsub (gF M4 5 3) FP.fconst1)) ∧ (vc_X1_movePlayer_n3 a1 (wF M4 5 3 (FP.fsub (gF M4 5 3) FP.fconst1)))
def sp_X1_movePlayer_n5 (a1 : Int32) (M3 : Mem) : Int32 × Mem := if 0 ≤ (Op.cmpValue (FP.fcmp (gF M3 5 3) FP.fconst1) .g) then (sp_X1_movePlayer_n4 a1 (sp_X0_enterNextCell M3 5)) else (0, M3)
def vc_X1_movePlayer_n5 (a1 : Int32) (M3 : Mem) : Prop := if 0 ≤ (Op.cmpValue (FP.fcmp (gF M3 5 3) FP.fconst1) .g) then (vc_X1_movePlayer_n4 a1 (sp_X0_enterNextCell M3 5)) else True
def sp_X1_movePlayer_B28 (a1 : Int32) (M2 : Mem) : Int32 × Mem := if (sp_X2_isOpen M2 5 (gI M2 5 2)) = 0 then (sp_X1_movePlayer_n2 (wF M2 5 3 FP.fconst0)) else (sp_X1_movePlayer_n5 a1 (wF M2 5 3 (FP.fadd (gF M2 5 3) (FP.fmul 1045220557 (FP.fadd FP.fconst1 (FP.fmul 1028443341 (FP.i2f (sp_J9_min_7cf53 (gI M2 1 7) 4))))))))
def vc_X1_movePlayer_B28 (a1 : Int32) (M2 : Mem) : Prop := (vc_X2_isOpen M2 5 (gI M2 5 2)) ∧ (if (sp_X2_isOpen M2 5 (gI M2 5 2)) = 0 then True else ((vf_n32 (FP.fmul 1028443341 (FP.i2f (sp_J9_min_7cf53 (gI M2 1 7) 4)))) ∧ ((vf_n32 (FP.fadd FP.fconst1 (FP.fmul 1028443341 (FP.i2f (sp_J9_min_7cf53 (gI M2 1 7) 4))))) ∧ ((vf_n32 (FP.fmul 1045220557 (FP.fadd FP.fconst1 (FP.fmul 1028443341 (FP.i2f (sp_J9_min_7cf53 (gI M2 1 7) 4)))))) ∧ ((vf_n32 (FP.fadd (gF M2 5 3) (FP.fmul 1045220557 (FP.fadd FP.fconst1 (FP.fmul 1028443341 (FP.i2f (sp_J9_min_7cf53 (gI M2 1 7) 4))))))) ∧ (vc_X1_movePlayer_n5 a1 (wF M2 5 3 (FP.fadd (gF M2 5 3) (FP.fmul 1045220557 (FP.fadd FP.fconst1 (FP.fmul 1028443341 (FP.i2f (sp_J9_min_7cf53 (gI M2 1 7) 4)))))))))))))
def sp_X1_movePlayer_n6 (a1 : Int32) (M1 : Mem) : Int32 × Mem := sp_X1_movePlayer_B28 a1 M1
def vc_X1_movePlayer_n6 (a1 : Int32) (M1 : Mem) : Prop := vc_X1_movePlayer_B28 a1 M1
def sp_X1_movePlayer (M : Mem) (a1 : Int32) : Int32 × Mem := if (Op.cmpValue (FP.fcmp (gF M 5 3) FP.fconst0) .l) = 0 then (if (sp_X1_isStickOpen M a1) = 0 then (sp_X1_movePlayer_B28 a1 M) else (sp_X1_movePlayer_n6 a1 (wI M 5 2 a1))) else (sp_X1_movePlayer_B28 a1 M)
def vc_X1_movePlayer (M : Mem) (a1 : Int32) : Prop := if (Op.cmpValue (FP.fcmp (gF M 5 3) FP.fconst0) .l) = 0 then (vc_X1_isStickOpen M a1 ∧ (if (sp_X1_isStickOpen M a1) = 0 then vc_X1_movePlayer_B28 a1 M else (vc_X1_movePlayer_n6 a1 (wI M 5 2 a1)))) else vc_X1_movePlayer_B28 a1 M
def sp_X1_passTime_B58 (M7 : Mem) : Mem := M7
def sp_X1_passTime_n1 (K : Int32 → Mem → Mem) (M5 : Mem) (x6 : Int32) : Mem := K x6 M5
def vc_X1_passTime_n1 (KV : Int32 → Mem → Prop) (M5 : Mem) (x6 : Int32) : Prop := KV x6 M5
def sp_X1_passTime_n2 (K : Int32 → Mem → Mem) (x3 : Int32) (M5 : Mem) : Mem := sp_X1_passTime_n1 K M5 (x3 + 1)
def vc_X1_passTime_n2 (KV : Int32 → Mem → Prop) (x3 : Int32) (M5 : Mem) : Prop := vc_X1_passTime_n1 KV M5 (x3 + 1)
def sp_X1_passTime_B37 : Nat → Int32 → Mem → Mem
  | 0, x3, M4 => M4
  | n + 1, x3, M4 => if 5 ≤ x3 then (sp_X1_passTime_B58 M4) else (sp_X1_passTime_n2 (sp_X1_passTime_B37 n) x3 (wI M4 (5 + x3.toNatClampNeg) 4 0))
def vc_X1_passTime_B37 : Nat → Int32 → Mem → Prop
  | 0, _, _ => False
  | n + 1, x3, M4 => if 5 ≤ x3 then True else (vp_in x3 5 ∧ (vc_X1_passTime_n2 (vc_X1_passTime_B37 n) x3 (wI M4 (5 + x3.toNatClampNeg) 4 0)))
def sp_X1_passTime_n3 (M2 : Mem) : Mem := M2
def sp_X1_passTime_n4 (M1 : Mem) : Mem := if (gI M1 1 10) = 0 then (sp_X1_passTime_B37 6 1 M1) else (sp_X1_passTime_B58 M1)
def vc_X1_passTime_n4 (M1 : Mem) : Prop := if (gI M1 1 10) = 0 then vc_X1_passTime_B37 6 1 M1 else True
def sp_X1_passTime (M : Mem) : Mem := if (gI M 1 10) = 0 then (sp_X1_passTime_n3 (wI M 1 11 ((gI M 1 11) + 1))) else (sp_X1_passTime_n4 (wI M 1 10 ((gI M 1 10) - 1)))
def vc_X1_passTime (M : Mem) : Prop := if (gI M 1 10) = 0 then True else (vc_X1_passTime_n4 (wI M 1 10 ((gI M 1 10) - 1)))
def sp_X1_playFrame_B121 (M21 : Mem) : Mem := M21
def sp_X1_playFrame_n1 (M18 : Mem) : Mem := sp_X1_playFrame_B121 M18
def sp_X1_playFrame_n2 (M17 : Mem) : Mem := sp_X1_playFrame_n1 (sp_X1_placeActors M17)
def vc_X1_playFrame_n2 (M17 : Mem) : Prop := vc_X1_placeActors M17
def sp_X1_playFrame_n3 (M16 : Mem) : Mem := sp_X1_playFrame_n2 (sp_X2_refill M16)
def vc_X1_playFrame_n3 (M16 : Mem) : Prop := vc_X2_refill M16 ∧ (vc_X1_playFrame_n2 (sp_X2_refill M16))
def sp_X1_playFrame_n4 (M15 : Mem) : Mem := if (gI M15 2 1) = 0 then (if (gI M15 1 15) = 0 then (sp_X1_playFrame_n3 (wI M15 1 7 ((gI M15 1 7) + 1))) else (sp_X1_playFrame_B121 M15)) else (sp_X1_playFrame_B121 M15)
def vc_X1_playFrame_n4 (M15 : Mem) : Prop := if (gI M15 2 1) = 0 then (if (gI M15 1 15) = 0 then (vc_X1_playFrame_n3 (wI M15 1 7 ((gI M15 1 7) + 1))) else True) else True
def sp_X1_playFrame_n5 (K : Int32 → Mem → Mem) (M19 : Mem) (x20 : Int32) : Mem := K x20 M19
def vc_X1_playFrame_n5 (KV : Int32 → Mem → Prop) (M19 : Mem) (x20 : Int32) : Prop := KV x20 M19
def sp_X1_playFrame_n6 (K : Int32 → Mem → Mem) (x13 : Int32) (M19 : Mem) : Mem := sp_X1_playFrame_n5 K M19 (x13 + 1)
def vc_X1_playFrame_n6 (KV : Int32 → Mem → Prop) (x13 : Int32) (M19 : Mem) : Prop := vc_X1_playFrame_n5 KV M19 (x13 + 1)
def sp_X1_playFrame_B63 : Nat → Int32 → Mem → Mem
  | 0, x13, M14 => M14
  | n + 1, x13, M14 => if 5 ≤ x13 then (sp_X1_playFrame_n4 (sp_X1_meetHunters M14)) else (sp_X1_playFrame_n6 (sp_X1_playFrame_B63 n) x13 (sp_X1_moveHunter M14 x13))
def vc_X1_playFrame_B63 : Nat → Int32 → Mem → Prop
  | 0, _, _ => False
  | n + 1, x13, M14 => if 5 ≤ x13 then (vc_X1_meetHunters M14 ∧ (vc_X1_playFrame_n4 (sp_X1_meetHunters M14))) else (vc_X1_moveHunter M14 x13 ∧ (vc_X1_playFrame_n6 (vc_X1_playFrame_B63 n) x13 (sp_X1_moveHunter M14 x13)))
def sp_X1_playFrame_B61 (M12 : Mem) : Mem := sp_X1_playFrame_B63 6 1 M12
def vc_X1_playFrame_B61 (M12 : Mem) : Prop := vc_X1_playFrame_B63 6 1 M12
def sp_X1_playFrame_n7 (M9 : Mem) : Mem := sp_X1_playFrame_B61 M9
def vc_X1_playFrame_n7 (M9 : Mem) : Prop := vc_X1_playFrame_B61 M9
def sp_X1_playFrame_n8 (M7 : Mem) (x8 : Int32) : Mem := if x8 = 0 then (sp_X1_playFrame_B61 M7) else (sp_X1_playFrame_n7 (sp_X1_eatHere M7))
def vc_X1_playFrame_n8 (M7 : Mem) (x8 : Int32) : Prop := if x8 = 0 then vc_X1_playFrame_B61 M7 else (vc_X1_eatHere M7 ∧ (vc_X1_playFrame_n7 (sp_X1_eatHere M7)))
def sp_X1_playFrame_n9 (a1 : Int32) (M6 : Mem) : Mem := sp_X1_playFrame_n8 ((sp_X1_movePlayer M6 a1).2) ((sp_X1_movePlayer M6 a1).1)
def vc_X1_playFrame_n9 (a1 : Int32) (M6 : Mem) : Prop := vc_X1_movePlayer M6 a1 ∧ (vc_X1_playFrame_n8 ((sp_X1_movePlayer M6 a1).2) ((sp_X1_movePlayer M6 a1).1))
def sp_X1_playFrame_n10 (K : Int32 → Int32 → Mem → Mem) (a1 : Int32) (M10 : Mem) (x11 : Int32) : Mem := K a1 x11 M10
def vc_X1_playFrame_n10 (KV : Int32 → Int32 → Mem → Prop) (a1 : Int32) (M10 : Mem) (x11 : Int32) : Prop := KV a1 x11 M10
def sp_X1_playFrame_n11 (K : Int32 → Int32 → Mem → Mem) (a1 : Int32) (x4 : Int32) (M10 : Mem) : Mem := sp_X1_playFrame_n10 K a1 M10 (x4 + 1)
def vc_X1_playFrame_n11 (KV : Int32 → Int32 → Mem → Prop) (a1 : Int32) (x4 : Int32) (M10 : Mem) : Prop := vc_X1_playFrame_n10 KV a1 M10 (x4 + 1)
def sp_X1_playFrame_B25 : Nat → Int32 → Int32 → Mem → Mem
  | 0, a1, x4, M5 => M5
  | n + 1, a1, x4, M5 => if 5 ≤ x4 then (sp_X1_playFrame_n9 a1 (sp_X1_passTime M5)) else (sp_X1_playFrame_n11 (sp_X1_playFrame_B25 n) a1 x4 (sp_X0_rememberCell M5 (5 + x4.toNatClampNeg)))
def vc_X1_playFrame_B25 : Nat → Int32 → Int32 → Mem → Prop
  | 0, _, _, _ => False
  | n + 1, a1, x4, M5 => if 5 ≤ x4 then (vc_X1_passTime M5 ∧ (vc_X1_playFrame_n9 a1 (sp_X1_passTime M5))) else (vp_in x4 5 ∧ (vc_X1_playFrame_n11 (vc_X1_playFrame_B25 n) a1 x4 (sp_X0_rememberCell M5 (5 + x4.toNatClampNeg))))
def sp_X1_playFrame_n12 (a1 : Int32) (M3 : Mem) : Mem := if (gI M3 1 3) = 0 then M3 else (sp_X1_playFrame_B25 6 a1 0 M3)
def vc_X1_playFrame_n12 (a1 : Int32) (M3 : Mem) : Prop := if (gI M3 1 3) = 0 then True else vc_X1_playFrame_B25 6 a1 0 M3
def sp_X1_playFrame_n13 (a1 : Int32) (M2 : Mem) : Mem := sp_X1_playFrame_n12 a1 (wI M2 1 15 0)
def vc_X1_playFrame_n13 (a1 : Int32) (M2 : Mem) : Prop := vc_X1_playFrame_n12 a1 (wI M2 1 15 0)
def sp_X1_playFrame_n14 (a1 : Int32) (M1 : Mem) : Mem := sp_X1_playFrame_n13 a1 (wI M1 1 14 0)
def vc_X1_playFrame_n14 (a1 : Int32) (M1 : Mem) : Prop := vc_X1_playFrame_n13 a1 (wI M1 1 14 0)
def sp_X1_playFrame (M : Mem) (a1 : Int32) : Mem := sp_X1_playFrame_n14 a1 (wI M 1 13 0)
def vc_X1_playFrame (M : Mem) (a1 : Int32) : Prop := vc_X1_playFrame_n14 a1 (wI M 1 13 0)
def sp_X1_humPitch_B35 (x1 : Int32) : Int32 := x1
def sp_X1_humPitch (M : Mem) : Int32 := if (gI M 1 10) ≤ 0 then (if (sp_X1_isScatter M) = 0 then (sp_X1_humPitch_B35 (300 + (10 * (gI M 1 7)))) else (sp_X1_humPitch_B35 300)) else 600
def vc_X1_humPitch (M : Mem) : Prop := if (gI M 1 10) ≤ 0 then vc_X1_isScatter M else True
def sp_X3_isMiddle_B15 (x1 : Int32) : Int32 := x1
def vc_X3_isMiddle_B15 (x1 : Int32) : Prop := (x1 = 0 ∨ x1 = 1)
def sp_X3_isMiddle_B10  : Int32 := sp_X3_isMiddle_B15 1
def vc_X3_isMiddle_B10  : Prop := vc_X3_isMiddle_B15 1
def sp_X3_isMiddle (a1 : Int32) : Int32 := if a1 = 1 then sp_X3_isMiddle_B10 else (if a1 = 2 then sp_X3_isMiddle_B10 else (sp_X3_isMiddle_B15 0))
def vc_X3_isMiddle (M : Mem) (a1 : Int32) : Prop := if a1 = 1 then vc_X3_isMiddle_B10 else (if a1 = 2 then vc_X3_isMiddle_B10 else vc_X3_isMiddle_B15 0)
def sp_X3_tileColour_B112 (x6 : Int32) : Int32 := x6
def sp_X3_tileColour_B100 (x5 : Int32) : Int32 := x5
def sp_X3_tileColour_B99  : Int32 := sp_X3_tileColour_B100 0
def sp_X3_tileColour_B71 (x4 : Int32) : Int32 := x4
def sp_X3_tileColour_B70  : Int32 := sp_X3_tileColour_B71 0
def sp_X3_tileColour_n1 (M : Mem) (a4 : Int32) (x1 : Int32) (x2 : Int32) (x3 : Int32) : Int32 := if x3 = 1 then 1 else if x3 = 2 then (if x1 = 1 then (if x2 = 1 then (sp_X3_tileColour_B71 2) else sp_X3_tileColour_B70) else sp_X3_tileColour_B70) else if x3 = 3 then (if (sp_X3_isMiddle x1) = 0 then sp_X3_tileColour_B99 else (if (sp_X3_isMiddle x2) = 0 then sp_X3_tileColour_B99 else (if (a4 &&& 8) = 0 then (sp_X3_tileColour_B100 2) else sp_X3_tileColour_B99))) else if x3 = 4 then (if x2 = 0 then (sp_X3_tileColour_B112 9) else (sp_X3_tileColour_B112 0)) else 0
def vc_X3_tileColour_n1 (M : Mem) (a4 : Int32) (x1 : Int32) (x2 : Int32) (x3 : Int32) : Prop := if x3 = 1 then True else if x3 = 2 then True else if x3 = 3 then (vc_X3_isMiddle M x1 ∧ (if (sp_X3_isMiddle x1) = 0 then True else vc_X3_isMiddle M x2)) else if x3 = 4 then True else True
def sp_X3_tileColour_n2 (M : Mem) (a2 : Int32) (a3 : Int32) (a4 : Int32) (x1 : Int32) (x2 : Int32) : Int32 := sp_X3_tileColour_n1 M a4 x1 x2 (sp_X2_whatIs M (a2 / 4) (a3 / 4))
def vc_X3_tileColour_n2 (M : Mem) (a2 : Int32) (a3 : Int32) (a4 : Int32) (x1 : Int32) (x2 : Int32) : Prop := (vc_X2_whatIs M (a2 / 4) (a3 / 4)) ∧ (vc_X3_tileColour_n1 M a4 x1 x2 (sp_X2_whatIs M (a2 / 4) (a3 / 4)))
def sp_X3_tileColour_n3 (M : Mem) (a2 : Int32) (a3 : Int32) (a4 : Int32) (x1 : Int32) : Int32 := sp_X3_tileColour_n2 M a2 a3 a4 x1 (a3 - a3 / 4 * 4)
def vc_X3_tileColour_n3 (M : Mem) (a2 : Int32) (a3 : Int32) (a4 : Int32) (x1 : Int32) : Prop := vc_X3_tileColour_n2 M a2 a3 a4 x1 (a3 - a3 / 4 * 4)
def sp_X3_tileColour (M : Mem) (a2 : Int32) (a3 : Int32) (a4 : Int32) : Int32 := sp_X3_tileColour_n3 M a2 a3 a4 (a2 - a2 / 4 * 4)
def vc_X3_tileColour (M : Mem) (a2 : Int32) (a3 : Int32) (a4 : Int32) : Prop := vc_X3_tileColour_n3 M a2 a3 a4 (a2 - a2 / 4 * 4)
def sp_X3_spriteColour_B15 (x1 : Int32) : Int32 := x1
def sp_X3_spriteColour (M : Mem) (b1 : Nat) (a2 : Int32) : Int32 := if (gI M b1 4) = 0 then (sp_X3_spriteColour_B15 (3 + a2)) else (sp_X3_spriteColour_B15 8)
def sp_J9_floorMod_7cf53_B18 (x1 : Int32) : Int32 := x1
def sp_J9_floorMod_7cf53_n1 (a1 : Int32) (a2 : Int32) (x1 : Int32) : Int32 := if 0 ≤ (a1 ^^^ a2) then (sp_J9_floorMod_7cf53_B18 x1) else (if x1 = 0 then (sp_J9_floorMod_7cf53_B18 x1) else (x1 + a2))
def sp_J9_floorMod_7cf53 (a1 : Int32) (a2 : Int32) : Int32 := sp_J9_floorMod_7cf53_n1 a1 a2 (a1 - a1 / a2 * a2)
def vc_J9_floorMod_7cf53 (M : Mem) (a1 : Int32) (a2 : Int32) : Prop := (¬ a2 = 0)
def sp_X3_isMouth_B97 (x4 : Int32) : Int32 := x4
def vc_X3_isMouth_B97 (x4 : Int32) : Prop := (x4 = 0 ∨ x4 = 1)
def sp_X3_isMouth_B96  : Int32 := sp_X3_isMouth_B97 0
def vc_X3_isMouth_B96  : Prop := vc_X3_isMouth_B97 0
def sp_X3_isMouth_B79 (x3 : Int32) : Int32 := x3
def vc_X3_isMouth_B79 (x3 : Int32) : Prop := (x3 = 0 ∨ x3 = 1)
def sp_X3_isMouth_B78  : Int32 := sp_X3_isMouth_B79 0
def vc_X3_isMouth_B78  : Prop := vc_X3_isMouth_B79 0
def sp_X3_isMouth_B61 (x2 : Int32) : Int32 := x2
def vc_X3_isMouth_B61 (x2 : Int32) : Prop := (x2 = 0 ∨ x2 = 1)
def sp_X3_isMouth_B60  : Int32 := sp_X3_isMouth_B61 0
def vc_X3_isMouth_B60  : Prop := vc_X3_isMouth_B61 0
def sp_X3_isMouth_B44 (x1 : Int32) : Int32 := x1
def vc_X3_isMouth_B44 (x1 : Int32) : Prop := (x1 = 0 ∨ x1 = 1)
def sp_X3_isMouth_B43  : Int32 := sp_X3_isMouth_B44 0
def vc_X3_isMouth_B43  : Prop := vc_X3_isMouth_B44 0
def sp_X3_isMouth (a1 : Int32) (a2 : Int32) (a3 : Int32) : Int32 := if a1 = 0 then (if a3 = 0 then (if (sp_X3_isMiddle a2) = 0 then sp_X3_isMouth_B43 else (sp_X3_isMouth_B44 1)) else sp_X3_isMouth_B43) else if a1 = 1 then (if a2 = 0 then (if (sp_X3_isMiddle a3) = 0 then sp_X3_isMouth_B60 else (sp_X3_isMouth_B61 1)) else sp_X3_isMouth_B60) else if a1 = 2 then (if a3 = 3 then (if (sp_X3_isMiddle a2) = 0 then sp_X3_isMouth_B78 else (sp_X3_isMouth_B79 1)) else sp_X3_isMouth_B78) else (if a2 = 3 then (if (sp_X3_isMiddle a3) = 0 then sp_X3_isMouth_B96 else (sp_X3_isMouth_B97 1)) else sp_X3_isMouth_B96)
def vc_X3_isMouth (M : Mem) (a1 : Int32) (a2 : Int32) (a3 : Int32) : Prop := if a1 = 0 then (if a3 = 0 then (vc_X3_isMiddle M a2 ∧ (if (sp_X3_isMiddle a2) = 0 then vc_X3_isMouth_B43 else vc_X3_isMouth_B44 1)) else vc_X3_isMouth_B43) else if a1 = 1 then (if a2 = 0 then (vc_X3_isMiddle M a3 ∧ (if (sp_X3_isMiddle a3) = 0 then vc_X3_isMouth_B60 else vc_X3_isMouth_B61 1)) else vc_X3_isMouth_B60) else if a1 = 2 then (if a3 = 3 then (vc_X3_isMiddle M a2 ∧ (if (sp_X3_isMiddle a2) = 0 then vc_X3_isMouth_B78 else vc_X3_isMouth_B79 1)) else vc_X3_isMouth_B78) else (if a2 = 3 then (vc_X3_isMiddle M a3 ∧ (if (sp_X3_isMiddle a3) = 0 then vc_X3_isMouth_B96 else vc_X3_isMouth_B97 1)) else vc_X3_isMouth_B96)
def sp_X3_covers_B173 (x9 : Int32) : Int32 := x9
def vc_X3_covers_B173 (x9 : Int32) : Prop := (x9 = 0 ∨ x9 = 1)
def sp_X3_covers_B172  : Int32 := sp_X3_covers_B173 0
def vc_X3_covers_B172  : Prop := vc_X3_covers_B173 0
def sp_X3_covers_B168  : Int32 := sp_X3_covers_B173 1
def vc_X3_covers_B168  : Prop := vc_X3_covers_B173 1
def sp_X3_covers_B142 (M : Mem) (b1 : Nat) (x4 : Int32) (x5 : Int32) (x7 : Int32) (x8 : Int32) : Int32 := if x7 = 0 then (if x8 = 0 then sp_X3_covers_B168 else (if (sp_X3_isMouth (gI M b1 2) x4 x5) = 0 then sp_X3_covers_B168 else sp_X3_covers_B172)) else sp_X3_covers_B172
def vc_X3_covers_B142 (M : Mem) (b1 : Nat) (x4 : Int32) (x5 : Int32) (x7 : Int32) (x8 : Int32) : Prop := if x7 = 0 then (if x8 = 0 then vc_X3_covers_B168 else ((vc_X3_isMouth M (gI M b1 2) x4 x5) ∧ (if (sp_X3_isMouth (gI M b1 2) x4 x5) = 0 then vc_X3_covers_B168 else vc_X3_covers_B172))) else vc_X3_covers_B172
def sp_X3_covers_B128 (M : Mem) (b1 : Nat) (a5 : Int32) (x4 : Int32) (x5 : Int32) (x7 : Int32) : Int32 := if (a5 &&& 4) = 0 then (sp_X3_covers_B142 M b1 x4 x5 x7 1) else (sp_X3_covers_B142 M b1 x4 x5 x7 0)
def vc_X3_covers_B128 (M : Mem) (b1 : Nat) (a5 : Int32) (x4 : Int32) (x5 : Int32) (x7 : Int32) : Prop := if (a5 &&& 4) = 0 then vc_X3_covers_B142 M b1 x4 x5 x7 1 else vc_X3_covers_B142 M b1 x4 x5 x7 0
def sp_X3_covers_B127 (M : Mem) (b1 : Nat) (a5 : Int32) (x4 : Int32) (x5 : Int32) : Int32 := sp_X3_covers_B128 M b1 a5 x4 x5 0
def vc_X3_covers_B127 (M : Mem) (b1 : Nat) (a5 : Int32) (x4 : Int32) (x5 : Int32) : Prop := vc_X3_covers_B128 M b1 a5 x4 x5 0
def sp_X3_covers_B106 (x6 : Int32) : Int32 := x6
def vc_X3_covers_B106 (x6 : Int32) : Prop := (x6 = 0 ∨ x6 = 1)
def sp_X3_covers_B101  : Int32 := sp_X3_covers_B106 1
def vc_X3_covers_B101  : Prop := vc_X3_covers_B106 1
def sp_X3_covers_B82  : Int32 := 0
def sp_X3_covers_n1 (M : Mem) (b1 : Nat) (a2 : Int32) (a5 : Int32) (x4 : Int32) (x5 : Int32) : Int32 := if 4 ≤ x4 then sp_X3_covers_B82 else (if x5 < 4 then (if a2 ≤ 0 then (if (sp_X3_isMiddle x4) = 0 then (if (sp_X3_isMiddle x5) = 0 then (sp_X3_covers_B128 M b1 a5 x4 x5 1) else (sp_X3_covers_B127 M b1 a5 x4 x5)) else (sp_X3_covers_B127 M b1 a5 x4 x5)) else (if (sp_X3_isMiddle x4) = 0 then (if x5 ≤ 0 then (sp_X3_covers_B106 0) else sp_X3_covers_B101) else sp_X3_covers_B101)) else sp_X3_covers_B82)
def vc_X3_covers_n1 (M : Mem) (b1 : Nat) (a2 : Int32) (a5 : Int32) (x4 : Int32) (x5 : Int32) : Prop := if 4 ≤ x4 then True else (if x5 < 4 then (if a2 ≤ 0 then (vc_X3_isMiddle M x4 ∧ (if (sp_X3_isMiddle x4) = 0 then (vc_X3_isMiddle M x5 ∧ (if (sp_X3_isMiddle x5) = 0 then vc_X3_covers_B128 M b1 a5 x4 x5 1 else vc_X3_covers_B127 M b1 a5 x4 x5)) else vc_X3_covers_B127 M b1 a5 x4 x5)) else (vc_X3_isMiddle M x4 ∧ (if (sp_X3_isMiddle x4) = 0 then (if x5 ≤ 0 then vc_X3_covers_B106 0 else vc_X3_covers_B101) else vc_X3_covers_B101))) else True)
def sp_X3_covers_n2 (M : Mem) (b1 : Nat) (a2 : Int32) (a4 : Int32) (a5 : Int32) (x3 : Int32) (x4 : Int32) : Int32 := sp_X3_covers_n1 M b1 a2 a5 x4 (sp_J9_floorMod_7cf53 (a4 - x3) 36)
def vc_X3_covers_n2 (M : Mem) (b1 : Nat) (a2 : Int32) (a4 : Int32) (a5 : Int32) (x3 : Int32) (x4 : Int32) : Prop := (vc_J9_floorMod_7cf53 M (a4 - x3) 36) ∧ (vc_X3_covers_n1 M b1 a2 a5 x4 (sp_J9_floorMod_7cf53 (a4 - x3) 36))
def sp_X3_covers_n3 (M : Mem) (b1 : Nat) (a2 : Int32) (a3 : Int32) (a4 : Int32) (a5 : Int32) (x2 : Int32) (x3 : Int32) : Int32 := sp_X3_covers_n2 M b1 a2 a4 a5 x3 (sp_J9_floorMod_7cf53 (a3 - x2) 52)
def vc_X3_covers_n3 (M : Mem) (b1 : Nat) (a2 : Int32) (a3 : Int32) (a4 : Int32) (a5 : Int32) (x2 : Int32) (x3 : Int32) : Prop := (vc_J9_floorMod_7cf53 M (a3 - x2) 52) ∧ (vc_X3_covers_n2 M b1 a2 a4 a5 x3 (sp_J9_floorMod_7cf53 (a3 - x2) 52))
def sp_X3_covers_n4 (M : Mem) (b1 : Nat) (a2 : Int32) (a3 : Int32) (a4 : Int32) (a5 : Int32) (x1 : Int32) (x2 : Int32) : Int32 := sp_X3_covers_n3 M b1 a2 a3 a4 a5 x2 (((gI M b1 1) * 4) + (x1 * (sp_X6_rowStep (gI M b1 2))))
def vc_X3_covers_n4 (M : Mem) (b1 : Nat) (a2 : Int32) (a3 : Int32) (a4 : Int32) (a5 : Int32) (x1 : Int32) (x2 : Int32) : Prop := vc_X3_covers_n3 M b1 a2 a3 a4 a5 x2 (((gI M b1 1) * 4) + (x1 * (sp_X6_rowStep (gI M b1 2))))
def sp_X3_covers_n5 (M : Mem) (b1 : Nat) (a2 : Int32) (a3 : Int32) (a4 : Int32) (a5 : Int32) (x1 : Int32) : Int32 := sp_X3_covers_n4 M b1 a2 a3 a4 a5 x1 (((gI M b1 0) * 4) + (x1 * (sp_X6_columnStep (gI M b1 2))))
def vc_X3_covers_n5 (M : Mem) (b1 : Nat) (a2 : Int32) (a3 : Int32) (a4 : Int32) (a5 : Int32) (x1 : Int32) : Prop := vc_X3_covers_n4 M b1 a2 a3 a4 a5 x1 (((gI M b1 0) * 4) + (x1 * (sp_X6_columnStep (gI M b1 2))))
def sp_X3_covers (M : Mem) (b1 : Nat) (a2 : Int32) (a3 : Int32) (a4 : Int32) (a5 : Int32) : Int32 := sp_X3_covers_n5 M b1 a2 a3 a4 a5 (FP.f2i (FP.fmul (gF M b1 3) 1082130432))
def vc_X3_covers (M : Mem) (b1 : Nat) (a2 : Int32) (a3 : Int32) (a4 : Int32) (a5 : Int32) : Prop := (vf_n32 (FP.fmul (gF M b1 3) 1082130432)) ∧ (vc_X3_covers_n5 M b1 a2 a3 a4 a5 (FP.f2i (FP.fmul (gF M b1 3) 1082130432)))
def sp_X5_ring_n1 (M2 : Mem) : Mem := M2
def sp_X5_ring_n2 (h : Nat) (a2 : Int32) (M1 : Mem) : Mem := sp_X5_ring_n1 (wI M1 h 1 a2)
def sp_X5_ring (M : Mem) (h : Nat) (a1 : UInt32) (a2 : Int32) : Mem := sp_X5_ring_n2 h a2 (wF M h 2 a1)
def sp_X5_silence_n1 (M2 : Mem) : Mem := M2
def sp_X5_silence_n2 (h : Nat) (M1 : Mem) : Mem := sp_X5_silence_n1 (sp_X5_ring M1 h FP.fconst0 0)
def sp_X5_silence (M : Mem) (h : Nat) : Mem := sp_X5_silence_n2 h (wI M h 0 0)
def sp_X4_silence_n1 (K : Int32 → Mem → Mem) (M3 : Mem) (x4 : Int32) : Mem := K x4 M3
def vc_X4_silence_n1 (KV : Int32 → Mem → Prop) (M3 : Mem) (x4 : Int32) : Prop := KV x4 M3
def sp_X4_silence_n2 (K : Int32 → Mem → Mem) (x1 : Int32) (M3 : Mem) : Mem := sp_X4_silence_n1 K M3 (x1 + 1)
def vc_X4_silence_n2 (KV : Int32 → Mem → Prop) (x1 : Int32) (M3 : Mem) : Prop := vc_X4_silence_n1 KV M3 (x1 + 1)
def sp_X4_silence_B2 : Nat → Int32 → Mem → Mem
  | 0, x1, M2 => M2
  | n + 1, x1, M2 => if 3 ≤ x1 then M2 else (sp_X4_silence_n2 (sp_X4_silence_B2 n) x1 (sp_X5_silence M2 (12 + x1.toNatClampNeg)))
def vc_X4_silence_B2 : Nat → Int32 → Mem → Prop
  | 0, _, _ => False
  | n + 1, x1, M2 => if 3 ≤ x1 then True else (vp_in x1 3 ∧ (vc_X4_silence_n2 (vc_X4_silence_B2 n) x1 (sp_X5_silence M2 (12 + x1.toNatClampNeg))))
def sp_X4_silence (M : Mem) : Mem := sp_X4_silence_B2 4 0 M
def vc_X4_silence (M : Mem) : Prop := vc_X4_silence_B2 4 0 M
def sp_X5_passFrame_n1 (M2 : Mem) : Mem := M2
def sp_X5_passFrame_n2 (h : Nat) (M1 : Mem) : Mem := sp_X5_passFrame_n1 (wF M1 h 2 (FP.fmul (gF M1 h 2) 1063675494))
def vc_X5_passFrame_n2 (h : Nat) (M1 : Mem) : Prop := (vf_n32 (FP.fmul (gF M1 h 2) 1063675494))
def sp_X5_passFrame (M : Mem) (h : Nat) : Mem := sp_X5_passFrame_n2 h (wI M h 0 (((gI M h 0) + (gI M h 1)).toInt16.toInt32))
def vc_X5_passFrame (M : Mem) (h : Nat) : Prop := vc_X5_passFrame_n2 h (wI M h 0 (((gI M h 0) + (gI M h 1)).toInt16.toInt32))
def sp_X4_playFrame_B105 (M12 : Mem) : Mem := M12
def sp_X4_playFrame_n1 (M11 : Mem) : Mem := sp_X4_playFrame_B105 M11
def sp_X4_playFrame_B85 (M10 : Mem) : Mem := if (gI M10 1 15) = 0 then (sp_X4_playFrame_B105 M10) else (sp_X4_playFrame_n1 (sp_X5_ring M10 14 1069547520 100))
def sp_X4_playFrame_n2 (M9 : Mem) : Mem := sp_X4_playFrame_B85 M9
def sp_X4_playFrame_B64 (M8 : Mem) : Mem := if (gI M8 1 14) = 0 then (sp_X4_playFrame_B85 M8) else (sp_X4_playFrame_n2 (sp_X5_ring M8 14 1069547520 1500))
def sp_X4_playFrame_n3 (M7 : Mem) : Mem := sp_X4_playFrame_B64 M7
def sp_X4_playFrame_B42 (M6 : Mem) : Mem := if (gI M6 1 3) = 0 then (sp_X4_playFrame_B64 M6) else (sp_X4_playFrame_n3 (sp_X5_ring M6 13 1056964608 (sp_X1_humPitch M6)))
def vc_X4_playFrame_B42 (M6 : Mem) : Prop := if (gI M6 1 3) = 0 then True else vc_X1_humPitch M6
def sp_X4_playFrame_n4 (M3 : Mem) : Mem := sp_X4_playFrame_B42 M3
def vc_X4_playFrame_n4 (M3 : Mem) : Prop := vc_X4_playFrame_B42 M3
def sp_X4_playFrame_n5 (K : Int32 → Mem → Mem) (M4 : Mem) (x5 : Int32) : Mem := K x5 M4
def vc_X4_playFrame_n5 (KV : Int32 → Mem → Prop) (M4 : Mem) (x5 : Int32) : Prop := KV x5 M4
def sp_X4_playFrame_n6 (K : Int32 → Mem → Mem) (x1 : Int32) (M4 : Mem) : Mem := sp_X4_playFrame_n5 K M4 (x1 + 1)
def vc_X4_playFrame_n6 (KV : Int32 → Mem → Prop) (x1 : Int32) (M4 : Mem) : Prop := vc_X4_playFrame_n5 KV M4 (x1 + 1)
def sp_X4_playFrame_B2 : Nat → Int32 → Mem → Mem
  | 0, x1, M2 => M2
  | n + 1, x1, M2 => if 3 ≤ x1 then (if (gI M2 1 13) = 0 then (sp_X4_playFrame_B42 M2) else (sp_X4_playFrame_n4 (sp_X5_ring M2 12 FP.fconst1 900))) else (sp_X4_playFrame_n6 (sp_X4_playFrame_B2 n) x1 (sp_X5_passFrame M2 (12 + x1.toNatClampNeg)))
def vc_X4_playFrame_B2 : Nat → Int32 → Mem → Prop
  | 0, _, _ => False
  | n + 1, x1, M2 => if 3 ≤ x1 then (if (gI M2 1 13) = 0 then vc_X4_playFrame_B42 M2 else (vc_X4_playFrame_n4 (sp_X5_ring M2 12 FP.fconst1 900))) else (vp_in x1 3 ∧ ((vc_X5_passFrame M2 (12 + x1.toNatClampNeg)) ∧ (vc_X4_playFrame_n6 (vc_X4_playFrame_B2 n) x1 (sp_X5_passFrame M2 (12 + x1.toNatClampNeg)))))
def sp_X4_playFrame (M : Mem) : Mem := sp_X4_playFrame_B2 4 0 M
def vc_X4_playFrame (M : Mem) : Prop := vc_X4_playFrame_B2 4 0 M
def sp_X5_sample (M : Mem) (h : Nat) : UInt32 := FP.fmul (FP.fsub (FP.i2f (((gI M h 0) >>> (8 &&& 31)) &&& 15)) 1089470464) (gF M h 2)
def vc_X5_sample (M : Mem) (h : Nat) : Prop := (vf_n32 (FP.fsub (FP.i2f (((gI M h 0) >>> (8 &&& 31)) &&& 15)) 1089470464)) ∧ (vf_n32 (FP.fmul (FP.fsub (FP.i2f (((gI M h 0) >>> (8 &&& 31)) &&& 15)) 1089470464) (gF M h 2)))
def sp_X6_coin_n1 (M1 : Mem) : Int32 × Mem := (1, M1)
def sp_X6_coin (M : Mem) : Int32 × Mem := if (gI M 0 2) < 9 then (sp_X6_coin_n1 (wI M 0 2 ((gI M 0 2) + 1))) else (0, M)
def sp_X6_start_B17 (M : Mem) : Int32 × Mem := (0, M)
def sp_X6_start_n1 (M2 : Mem) : Int32 × Mem := (1, M2)
def sp_X6_start_n2 (M1 : Mem) : Int32 × Mem := sp_X6_start_n1 (sp_X1_begin M1)
def vc_X6_start_n2 (M1 : Mem) : Prop := vc_X1_begin M1
def sp_X6_start (M : Mem) : Int32 × Mem := if (gI M 0 2) = 0 then (sp_X6_start_B17 M) else (if (gI M 1 3) = 0 then (sp_X6_start_n2 (wI M 0 2 ((gI M 0 2) - 1))) else (sp_X6_start_B17 M))
def vc_X6_start (M : Mem) : Prop := if (gI M 0 2) = 0 then True else (if (gI M 1 3) = 0 then (vc_X6_start_n2 (wI M 0 2 ((gI M 0 2) - 1))) else True)
def sp_X6_stick_B10 (M : Mem) : Int32 × Mem := (0, M)
def sp_X6_stick_n1 (M1 : Mem) : Int32 × Mem := (1, M1)
def sp_X6_stick (M : Mem) (a1 : Int32) : Int32 × Mem := if a1 < (-1) then (sp_X6_stick_B10 M) else (if a1 < 4 then (sp_X6_stick_n1 (wI M 0 3 a1)) else (sp_X6_stick_B10 M))
def sp_X6_kick_n1 (M1 : Mem) : Mem := M1
def sp_X6_kick (M : Mem) : Mem := sp_X6_kick_n1 (wI M 0 4 0)
def sp_X6_reset_n1 (M5 : Mem) : Mem := M5
def sp_X6_reset_n2 (M4 : Mem) : Mem := sp_X6_reset_n1 (wI M4 0 4 0)
def sp_X6_reset_n3 (M3 : Mem) : Mem := sp_X6_reset_n2 (wI M3 0 3 (-1))
def sp_X6_reset_n4 (M2 : Mem) : Mem := sp_X6_reset_n3 (wI M2 0 2 0)
def sp_X6_reset_n5 (M1 : Mem) : Mem := sp_X6_reset_n4 (sp_X4_silence M1)
def vc_X6_reset_n5 (M1 : Mem) : Prop := vc_X4_silence M1
def sp_X6_reset (M : Mem) : Mem := sp_X6_reset_n5 (sp_X1_clear M)
def vc_X6_reset (M : Mem) : Prop := vc_X1_clear M ∧ (vc_X6_reset_n5 (sp_X1_clear M))
def sp_X6_frames_n1 (K : Int32 → Int32 → Mem → Int32 × Mem) (a1 : Int32) (M8 : Mem) (x9 : Int32) : Int32 × Mem := K a1 x9 M8
def vc_X6_frames_n1 (KV : Int32 → Int32 → Mem → Prop) (a1 : Int32) (M8 : Mem) (x9 : Int32) : Prop := KV a1 x9 M8
def sp_X6_frames_B75 (K : Int32 → Int32 → Mem → Int32 × Mem) (a1 : Int32) (x1 : Int32) (M8 : Mem) : Int32 × Mem := sp_X6_frames_n1 K a1 M8 (x1 + 1)
def vc_X6_frames_B75 (KV : Int32 → Int32 → Mem → Prop) (a1 : Int32) (x1 : Int32) (M8 : Mem) : Prop := vc_X6_frames_n1 KV a1 M8 (x1 + 1)
def sp_X6_frames_n2 (K : Int32 → Int32 → Mem → Int32 × Mem) (a1 : Int32) (x1 : Int32) (M7 : Mem) : Int32 × Mem := sp_X6_frames_B75 K a1 x1 M7
def vc_X6_frames_n2 (KV : Int32 → Int32 → Mem → Prop) (a1 : Int32) (x1 : Int32) (M7 : Mem) : Prop := vc_X6_frames_B75 KV a1 x1 M7
def sp_X6_frames_n3 (K : Int32 → Int32 → Mem → Int32 × Mem) (a1 : Int32) (x1 : Int32) (M6 : Mem) : Int32 × Mem := if (gI M6 0 4) = 120 then (sp_X6_frames_n2 K a1 x1 (sp_X6_reset M6)) else (sp_X6_frames_B75 K a1 x1 M6)
def vc_X6_frames_n3 (KV : Int32 → Int32 → Mem → Prop) (a1 : Int32) (x1 : Int32) (M6 : Mem) : Prop := if (gI M6 0 4) = 120 then (vc_X6_reset M6 ∧ (vc_X6_frames_n2 KV a1 x1 (sp_X6_reset M6))) else vc_X6_frames_B75 KV a1 x1 M6
def sp_X6_frames_n4 (K : Int32 → Int32 → Mem → Int32 × Mem) (a1 : Int32) (x1 : Int32) (M5 : Mem) : Int32 × Mem := sp_X6_frames_n3 K a1 x1 (wI M5 0 4 ((gI M5 0 4) + 1))
def vc_X6_frames_n4 (KV : Int32 → Int32 → Mem → Prop) (a1 : Int32) (x1 : Int32) (M5 : Mem) : Prop := vc_X6_frames_n3 KV a1 x1 (wI M5 0 4 ((gI M5 0 4) + 1))
def sp_X6_frames_n5 (K : Int32 → Int32 → Mem → Int32 × Mem) (a1 : Int32) (x1 : Int32) (M4 : Mem) : Int32 × Mem := sp_X6_frames_n4 K a1 x1 (wI M4 0 5 ((gI M4 0 5) + 1))
def vc_X6_frames_n5 (KV : Int32 → Int32 → Mem → Prop) (a1 : Int32) (x1 : Int32) (M4 : Mem) : Prop := vc_X6_frames_n4 KV a1 x1 (wI M4 0 5 ((gI M4 0 5) + 1))
def sp_X6_frames_n6 (K : Int32 → Int32 → Mem → Int32 × Mem) (a1 : Int32) (x1 : Int32) (M3 : Mem) : Int32 × Mem := sp_X6_frames_n5 K a1 x1 (sp_X4_playFrame M3)
def vc_X6_frames_n6 (KV : Int32 → Int32 → Mem → Prop) (a1 : Int32) (x1 : Int32) (M3 : Mem) : Prop := vc_X4_playFrame M3 ∧ (vc_X6_frames_n5 KV a1 x1 (sp_X4_playFrame M3))
def sp_X6_frames_B15 : Nat → Int32 → Int32 → Mem → Int32 × Mem
  | 0, a1, x1, M2 => (0, M2)
  | n + 1, a1, x1, M2 => if a1 ≤ x1 then (a1, M2) else (sp_X6_frames_n6 (sp_X6_frames_B15 n) a1 x1 (sp_X1_playFrame M2 (gI M2 0 3)))
def vc_X6_frames_B15 : Nat → Int32 → Int32 → Mem → Prop
  | 0, _, _, _ => False
  | n + 1, a1, x1, M2 => if a1 ≤ x1 then True else ((vc_X1_playFrame M2 (gI M2 0 3)) ∧ (vc_X6_frames_n6 (vc_X6_frames_B15 n) a1 x1 (sp_X1_playFrame M2 (gI M2 0 3))))
def sp_X6_frames_B11 (M : Mem) : Int32 × Mem := ((-1), M)
def sp_X6_frames (M : Mem) (a1 : Int32) : Int32 × Mem := if a1 < 1 then (sp_X6_frames_B11 M) else (if a1 ≤ 60 then (sp_X6_frames_B15 62 a1 0 M) else (sp_X6_frames_B11 M))
def vc_X6_frames (M : Mem) (a1 : Int32) : Prop := if a1 < 1 then True else (if a1 ≤ 60 then vc_X6_frames_B15 62 a1 0 M else True)
def sp_X6_look_B79 (x1 : Int32) : Int32 := x1
def sp_X6_look (M : Mem) (a1 : Int32) : Int32 := if a1 = 0 then (if (gI M 1 3) = 0 then (sp_X6_look_B79 0) else (sp_X6_look_B79 1)) else if a1 = 1 then (gI M 1 4) else if a1 = 2 then (gI M 1 5) else if a1 = 3 then (gI M 1 6) else if a1 = 4 then (gI M 1 7) else if a1 = 5 then (gI M 0 2) else if a1 = 6 then (gI M 2 1) else if a1 = 7 then (gI M 1 10) else if a1 = 8 then (gI M 1 11) else if a1 = 9 then (gI M 1 8) else if a1 = 10 then (gI M 0 4) else if a1 = 11 then (gI M 0 5) else (-1)
def sp_X6_actor_B105 (x2 : Int32) : Int32 := x2
def sp_X6_actor_B87 (x1 : Int32) : Int32 := x1
def sp_X6_actor_B9  : Int32 := (-1)
def sp_X6_actor (M : Mem) (a1 : Int32) (a2 : Int32) : Int32 := if a1 < 0 then sp_X6_actor_B9 else (if a1 < 5 then (if a2 = 0 then (gI M (5 + a1.toNatClampNeg) 0) else if a2 = 1 then (gI M (5 + a1.toNatClampNeg) 1) else if a2 = 2 then (gI M (5 + a1.toNatClampNeg) 2) else if a2 = 3 then (if (gI M (5 + a1.toNatClampNeg) 4) = 0 then (sp_X6_actor_B87 0) else (sp_X6_actor_B87 1)) else if a2 = 4 then (gI M (5 + a1.toNatClampNeg) 6) else if a2 = 5 then (if (gI M (5 + a1.toNatClampNeg) 5) = 0 then (sp_X6_actor_B105 0) else (sp_X6_actor_B105 1)) else (-1)) else sp_X6_actor_B9)
def vc_X6_actor (M : Mem) (a1 : Int32) (a2 : Int32) : Prop := if a1 < 0 then True else (if a1 < 5 then vp_in a1 5 else True)
def sp_X6_progress_B25 (f1 : UInt32) : UInt32 := f1
def sp_X6_progress_B9  : UInt32 := sp_X6_progress_B25 FP.fconst0
def sp_X6_progress (M : Mem) (a1 : Int32) : UInt32 := if a1 < 0 then sp_X6_progress_B9 else (if a1 < 5 then (sp_X6_progress_B25 (gF M (5 + a1.toNatClampNeg) 3)) else sp_X6_progress_B9)
def vc_X6_progress (M : Mem) (a1 : Int32) : Prop := if a1 < 0 then True else (if a1 < 5 then vp_in a1 5 else True)
def sp_X6_cell (M : Mem) (a1 : Int32) (a2 : Int32) : Int32 := sp_X2_whatIs M a1 a2
def vc_X6_cell (M : Mem) (a1 : Int32) (a2 : Int32) : Prop := vc_X2_whatIs M a1 a2
def sp_X6_point_B81 (M : Mem) (a1 : Int32) (a2 : Int32) : Int32 := sp_X3_tileColour M a1 a2 (gI M 0 5)
def vc_X6_point_B81 (M : Mem) (a1 : Int32) (a2 : Int32) : Prop := (vc_X3_tileColour M a1 a2 (gI M 0 5))
def sp_X6_point_n1 (K : Mem → Int32 → Int32 → Int32 → Int32) (M : Mem) (a1 : Int32) (a2 : Int32) (x2 : Int32) : Int32 := K M a1 a2 x2
def vc_X6_point_n1 (KV : Mem → Int32 → Int32 → Int32 → Prop) (M : Mem) (a1 : Int32) (a2 : Int32) (x2 : Int32) : Prop := KV M a1 a2 x2
def sp_X6_point_B34 : Nat → Mem → Int32 → Int32 → Int32 → Int32
  | 0, M, a1, a2, x1 => 0
  | n + 1, M, a1, a2, x1 => if 5 ≤ x1 then (sp_X6_point_B81 M a1 a2) else (if (sp_X3_covers M (5 + x1.toNatClampNeg) x1 a1 a2 (gI M 0 5)) = 0 then (sp_X6_point_n1 (sp_X6_point_B34 n) M a1 a2 (x1 + 1)) else (sp_X3_spriteColour M (5 + x1.toNatClampNeg) x1))
def vc_X6_point_B34 : Nat → Mem → Int32 → Int32 → Int32 → Prop
  | 0, _, _, _, _ => False
  | n + 1, M, a1, a2, x1 => if 5 ≤ x1 then vc_X6_point_B81 M a1 a2 else (vp_in x1 5 ∧ ((vc_X3_covers M (5 + x1.toNatClampNeg) x1 a1 a2 (gI M 0 5)) ∧ (if (sp_X3_covers M (5 + x1.toNatClampNeg) x1 a1 a2 (gI M 0 5)) = 0 then (vc_X6_point_n1 (vc_X6_point_B34 n) M a1 a2 (x1 + 1)) else vp_in x1 5)))
def sp_X6_point_B20  : Int32 := (-1)
def sp_X6_point (M : Mem) (a1 : Int32) (a2 : Int32) : Int32 := if a1 < 0 then sp_X6_point_B20 else (if 52 ≤ a1 then sp_X6_point_B20 else (if a2 < 0 then sp_X6_point_B20 else (if a2 < 36 then (if (gI M 1 3) = 0 then (sp_X6_point_B81 M a1 a2) else (sp_X6_point_B34 6 M a1 a2 0)) else sp_X6_point_B20)))
def vc_X6_point (M : Mem) (a1 : Int32) (a2 : Int32) : Prop := if a1 < 0 then True else (if 52 ≤ a1 then True else (if a2 < 0 then True else (if a2 < 36 then (if (gI M 1 3) = 0 then vc_X6_point_B81 M a1 a2 else vc_X6_point_B34 6 M a1 a2 0) else True)))
def sp_X6_volume_B25 (f1 : UInt32) : UInt32 := f1
def sp_X6_volume_B9  : UInt32 := sp_X6_volume_B25 FP.fconst0
def sp_X6_volume (M : Mem) (a1 : Int32) : UInt32 := if a1 < 0 then sp_X6_volume_B9 else (if a1 < 3 then (sp_X6_volume_B25 (gF M (12 + a1.toNatClampNeg) 2)) else sp_X6_volume_B9)
def vc_X6_volume (M : Mem) (a1 : Int32) : Prop := if a1 < 0 then True else (if a1 < 3 then vp_in a1 3 else True)
def sp_X6_sound_n1 (K : Mem → UInt32 → Int32 → UInt32) (M : Mem) (f4 : UInt32) (x5 : Int32) : UInt32 := K M f4 x5
def vc_X6_sound_n1 (KV : Mem → UInt32 → Int32 → Prop) (M : Mem) (f4 : UInt32) (x5 : Int32) : Prop := KV M f4 x5
def sp_X6_sound_n2 (K : Mem → UInt32 → Int32 → UInt32) (M : Mem) (x3 : Int32) (f4 : UInt32) : UInt32 := sp_X6_sound_n1 K M f4 (x3 + 1)
def vc_X6_sound_n2 (KV : Mem → UInt32 → Int32 → Prop) (M : Mem) (x3 : Int32) (f4 : UInt32) : Prop := vc_X6_sound_n1 KV M f4 (x3 + 1)
def sp_X6_sound_B4 : Nat → Mem → UInt32 → Int32 → UInt32
  | 0, M, f2, x3 => 0
  | n + 1, M, f2, x3 => if 3 ≤ x3 then f2 else (sp_X6_sound_n2 (sp_X6_sound_B4 n) M x3 (FP.fadd f2 (sp_X5_sample M (12 + x3.toNatClampNeg))))
def vc_X6_sound_B4 : Nat → Mem → UInt32 → Int32 → Prop
  | 0, _, _, _ => False
  | n + 1, M, f2, x3 => if 3 ≤ x3 then True else (vp_in x3 3 ∧ ((vc_X5_sample M (12 + x3.toNatClampNeg)) ∧ ((vf_n32 (FP.fadd f2 (sp_X5_sample M (12 + x3.toNatClampNeg)))) ∧ (vc_X6_sound_n2 (vc_X6_sound_B4 n) M x3 (FP.fadd f2 (sp_X5_sample M (12 + x3.toNatClampNeg)))))))
def sp_X6_sound_n3 (M : Mem) (f1 : UInt32) : UInt32 := sp_X6_sound_B4 4 M f1 0
def vc_X6_sound_n3 (M : Mem) (f1 : UInt32) : Prop := vc_X6_sound_B4 4 M f1 0
def sp_X6_sound (M : Mem) : UInt32 := sp_X6_sound_n3 M FP.fconst0
def vc_X6_sound (M : Mem) : Prop := vc_X6_sound_n3 M FP.fconst0
def sp_X7_both_n1 (K : Int32 → Int32 → Int32 → Int32 → Int32 → Mem → Mem) (a1 : Int32) (a2 : Int32) (a3 : Int32) (a4 : Int32) (M4 : Mem) (x5 : Int32) : Mem := K a1 a2 a3 a4 x5 M4
def vc_X7_both_n1 (KV : Int32 → Int32 → Int32 → Int32 → Int32 → Mem → Prop) (a1 : Int32) (a2 : Int32) (a3 : Int32) (a4 : Int32) (M4 : Mem) (x5 : Int32) : Prop := KV a1 a2 a3 a4 x5 M4
def sp_X7_both_n2 (K : Int32 → Int32 → Int32 → Int32 → Int32 → Mem → Mem) (a1 : Int32) (a2 : Int32) (a3 : Int32) (a4 : Int32) (x1 : Int32) (M4 : Mem) : Mem := sp_X7_both_n1 K a1 a2 a3 a4 M4 (x1 + 1)
def vc_X7_both_n2 (KV : Int32 → Int32 → Int32 → Int32 → Int32 → Mem → Prop) (a1 : Int32) (a2 : Int32) (a3 : Int32) (a4 : Int32) (x1 : Int32) (M4 : Mem) : Prop := vc_X7_both_n1 KV a1 a2 a3 a4 M4 (x1 + 1)
def sp_X7_both_n3 (K : Int32 → Int32 → Int32 → Int32 → Int32 → Mem → Mem) (a1 : Int32) (a2 : Int32) (a3 : Int32) (a4 : Int32) (x1 : Int32) (M3 : Mem) : Mem := sp_X7_both_n2 K a1 a2 a3 a4 x1 (wI M3 21 ((((13 * a1) + 12) - x1).toNatClampNeg) a4)
def vc_X7_both_n3 (KV : Int32 → Int32 → Int32 → Int32 → Int32 → Mem → Prop) (a1 : Int32) (a2 : Int32) (a3 : Int32) (a4 : Int32) (x1 : Int32) (M3 : Mem) : Prop := (vp_in (((13 * a1) + 12) - x1) 117) ∧ (vc_X7_both_n2 KV a1 a2 a3 a4 x1 (wI M3 21 ((((13 * a1) + 12) - x1).toNatClampNeg) a4))
def sp_X7_both_B3 : Nat → Int32 → Int32 → Int32 → Int32 → Int32 → Mem → Mem
  | 0, a1, a2, a3, a4, x1, M2 => M2
  | n + 1, a1, a2, a3, a4, x1, M2 => if (a2 + a3) ≤ x1 then M2 else (sp_X7_both_n3 (sp_X7_both_B3 n) a1 a2 a3 a4 x1 (wI M2 21 (((13 * a1) + x1).toNatClampNeg) a4))
def vc_X7_both_B3 : Nat → Int32 → Int32 → Int32 → Int32 → Int32 → Mem → Prop
  | 0, _, _, _, _, _, _ => False
  | n + 1, a1, a2, a3, a4, x1, M2 => if (a2 + a3) ≤ x1 then True else ((vp_in ((13 * a1) + x1) 117) ∧ (vc_X7_both_n3 (vc_X7_both_B3 n) a1 a2 a3 a4 x1 (wI M2 21 (((13 * a1) + x1).toNatClampNeg) a4)))
def sp_X7_both (M : Mem) (a1 : Int32) (a2 : Int32) (a3 : Int32) (a4 : Int32) : Mem := sp_X7_both_B3 8 a1 a2 a3 a4 a2 M
def vc_X7_both (M : Mem) (a1 : Int32) (a2 : Int32) (a3 : Int32) (a4 : Int32) : Prop := vc_X7_both_B3 8 a1 a2 a3 a4 a2 M
def sp_X7_draw_n1 (M19 : Mem) : Mem := M19
def sp_X7_draw_n2 (M18 : Mem) : Mem := sp_X7_draw_n1 (sp_X7_both M18 4 5 2 4)
def vc_X7_draw_n2 (M18 : Mem) : Prop := vc_X7_both M18 4 5 2 4
def sp_X7_draw_n3 (M17 : Mem) : Mem := sp_X7_draw_n2 (sp_X7_both M17 4 0 4 2)
def vc_X7_draw_n3 (M17 : Mem) : Prop := vc_X7_both M17 4 0 4 2 ∧ (vc_X7_draw_n2 (sp_X7_both M17 4 0 4 2))
def sp_X7_draw_n4 (K : Int32 → Mem → Mem) (M21 : Mem) (x22 : Int32) : Mem := K x22 M21
def vc_X7_draw_n4 (KV : Int32 → Mem → Prop) (M21 : Mem) (x22 : Int32) : Prop := KV x22 M21
def sp_X7_draw_n5 (K : Int32 → Mem → Mem) (x15 : Int32) (M21 : Mem) : Mem := sp_X7_draw_n4 K M21 (x15 + 2)
def vc_X7_draw_n5 (KV : Int32 → Mem → Prop) (x15 : Int32) (M21 : Mem) : Prop := vc_X7_draw_n4 KV M21 (x15 + 2)
def sp_X7_draw_n6 (K : Int32 → Mem → Mem) (x15 : Int32) (M20 : Mem) : Mem := sp_X7_draw_n5 K x15 (sp_X7_both M20 x15 3 2 2)
def vc_X7_draw_n6 (KV : Int32 → Mem → Prop) (x15 : Int32) (M20 : Mem) : Prop := vc_X7_both M20 x15 3 2 2 ∧ (vc_X7_draw_n5 KV x15 (sp_X7_both M20 x15 3 2 2))
def sp_X7_draw_B83 : Nat → Int32 → Mem → Mem
  | 0, x15, M16 => M16
  | n + 1, x15, M16 => if 6 ≤ x15 then (sp_X7_draw_n3 (sp_X7_both M16 3 6 1 4)) else (sp_X7_draw_n6 (sp_X7_draw_B83 n) x15 (sp_X7_both M16 x15 1 1 2))
def vc_X7_draw_B83 : Nat → Int32 → Mem → Prop
  | 0, _, _ => False
  | n + 1, x15, M16 => if 6 ≤ x15 then (vc_X7_both M16 3 6 1 4 ∧ (vc_X7_draw_n3 (sp_X7_both M16 3 6 1 4))) else (vc_X7_both M16 x15 1 1 2 ∧ (vc_X7_draw_n6 (vc_X7_draw_B83 n) x15 (sp_X7_both M16 x15 1 1 2)))
def sp_X7_draw_n7 (K : Int32 → Mem → Mem) (M13 : Mem) (x14 : Int32) : Mem := K x14 M13
def vc_X7_draw_n7 (KV : Int32 → Mem → Prop) (M13 : Mem) (x14 : Int32) : Prop := KV x14 M13
def sp_X7_draw_n8 (K : Int32 → Mem → Mem) (x10 : Int32) (M13 : Mem) : Mem := sp_X7_draw_n7 K M13 (x10 + 4)
def vc_X7_draw_n8 (KV : Int32 → Mem → Prop) (x10 : Int32) (M13 : Mem) : Prop := vc_X7_draw_n7 KV M13 (x10 + 4)
def sp_X7_draw_n9 (K : Int32 → Mem → Mem) (x10 : Int32) (M12 : Mem) : Mem := sp_X7_draw_n8 K x10 (sp_X7_both M12 x10 4 3 2)
def vc_X7_draw_n9 (KV : Int32 → Mem → Prop) (x10 : Int32) (M12 : Mem) : Prop := vc_X7_both M12 x10 4 3 2 ∧ (vc_X7_draw_n8 KV x10 (sp_X7_both M12 x10 4 3 2))
def sp_X7_draw_B53 : Nat → Int32 → Mem → Mem
  | 0, x10, M11 => M11
  | n + 1, x10, M11 => if 7 ≤ x10 then (sp_X7_draw_B83 118 3 M11) else (sp_X7_draw_n9 (sp_X7_draw_B53 n) x10 (sp_X7_both M11 x10 1 1 2))
def vc_X7_draw_B53 : Nat → Int32 → Mem → Prop
  | 0, _, _ => False
  | n + 1, x10, M11 => if 7 ≤ x10 then vc_X7_draw_B83 118 3 M11 else (vc_X7_both M11 x10 1 1 2 ∧ (vc_X7_draw_n9 (vc_X7_draw_B53 n) x10 (sp_X7_both M11 x10 1 1 2)))
def sp_X7_draw_n10 (K : Int32 → Mem → Mem) (M8 : Mem) (x9 : Int32) : Mem := K x9 M8
def vc_X7_draw_n10 (KV : Int32 → Mem → Prop) (M8 : Mem) (x9 : Int32) : Prop := KV x9 M8
def sp_X7_draw_n11 (K : Int32 → Mem → Mem) (x5 : Int32) (M8 : Mem) : Mem := sp_X7_draw_n10 K M8 (x5 + 6)
def vc_X7_draw_n11 (KV : Int32 → Mem → Prop) (x5 : Int32) (M8 : Mem) : Prop := vc_X7_draw_n10 KV M8 (x5 + 6)
def sp_X7_draw_n12 (K : Int32 → Mem → Mem) (x5 : Int32) (M7 : Mem) : Mem := sp_X7_draw_n11 K x5 (sp_X7_both M7 x5 2 4 2)
def vc_X7_draw_n12 (KV : Int32 → Mem → Prop) (x5 : Int32) (M7 : Mem) : Prop := vc_X7_both M7 x5 2 4 2 ∧ (vc_X7_draw_n11 KV x5 (sp_X7_both M7 x5 2 4 2))
def sp_X7_draw_B23 : Nat → Int32 → Mem → Mem
  | 0, x5, M6 => M6
  | n + 1, x5, M6 => if 8 ≤ x5 then (sp_X7_draw_B53 118 2 M6) else (sp_X7_draw_n12 (sp_X7_draw_B23 n) x5 (sp_X7_both M6 x5 1 1 3))
def vc_X7_draw_B23 : Nat → Int32 → Mem → Prop
  | 0, _, _ => False
  | n + 1, x5, M6 => if 8 ≤ x5 then vc_X7_draw_B53 118 2 M6 else (vc_X7_both M6 x5 1 1 3 ∧ (vc_X7_draw_n12 (vc_X7_draw_B23 n) x5 (sp_X7_both M6 x5 1 1 3)))
def sp_X7_draw_n13 (K : Int32 → Mem → Mem) (M3 : Mem) (x4 : Int32) : Mem := K x4 M3
def vc_X7_draw_n13 (KV : Int32 → Mem → Prop) (M3 : Mem) (x4 : Int32) : Prop := KV x4 M3
def sp_X7_draw_n14 (K : Int32 → Mem → Mem) (x1 : Int32) (M3 : Mem) : Mem := sp_X7_draw_n13 K M3 (x1 + 1)
def vc_X7_draw_n14 (KV : Int32 → Mem → Prop) (x1 : Int32) (M3 : Mem) : Prop := vc_X7_draw_n13 KV M3 (x1 + 1)
def sp_X7_draw_B2 : Nat → Int32 → Mem → Mem
  | 0, x1, M2 => M2
  | n + 1, x1, M2 => if 117 ≤ x1 then (sp_X7_draw_B23 118 1 M2) else (sp_X7_draw_n14 (sp_X7_draw_B2 n) x1 (wI M2 21 x1.toNatClampNeg 1))
def vc_X7_draw_B2 : Nat → Int32 → Mem → Prop
  | 0, _, _ => False
  | n + 1, x1, M2 => if 117 ≤ x1 then vc_X7_draw_B23 118 1 M2 else (vp_in x1 117 ∧ (vc_X7_draw_n14 (vc_X7_draw_B2 n) x1 (wI M2 21 x1.toNatClampNeg 1)))
def sp_X7_draw (M : Mem) : Mem := sp_X7_draw_B2 118 0 M
def vc_X7_draw (M : Mem) : Prop := vc_X7_draw_B2 118 0 M
def sp_X7_fill_n1 (K : Int32 → Mem → Mem) (M3 : Mem) (x4 : Int32) : Mem := K x4 M3
def vc_X7_fill_n1 (KV : Int32 → Mem → Prop) (M3 : Mem) (x4 : Int32) : Prop := KV x4 M3
def sp_X7_fill_n2 (K : Int32 → Mem → Mem) (x1 : Int32) (M3 : Mem) : Mem := sp_X7_fill_n1 K M3 (x1 + 1)
def vc_X7_fill_n2 (KV : Int32 → Mem → Prop) (x1 : Int32) (M3 : Mem) : Prop := vc_X7_fill_n1 KV M3 (x1 + 1)
def sp_X7_fill_B2 : Nat → Int32 → Mem → Mem
  | 0, x1, M2 => M2
  | n + 1, x1, M2 => if 117 ≤ x1 then M2 else (sp_X7_fill_n2 (sp_X7_fill_B2 n) x1 (wI M2 22 x1.toNatClampNeg (gI M2 21 x1.toNatClampNeg)))
def vc_X7_fill_B2 : Nat → Int32 → Mem → Prop
  | 0, _, _ => False
  | n + 1, x1, M2 => if 117 ≤ x1 then True else (vp_in x1 117 ∧ (vp_in x1 117 ∧ (vc_X7_fill_n2 (vc_X7_fill_B2 n) x1 (wI M2 22 x1.toNatClampNeg (gI M2 21 x1.toNatClampNeg)))))
def sp_X7_fill (M : Mem) : Mem := sp_X7_fill_B2 118 0 M
def vc_X7_fill (M : Mem) : Prop := vc_X7_fill_B2 118 0 M
def sp_X7_put_n1 (M8 : Mem) : Mem := M8
def sp_X7_put_B59 (a1 : Int32) (M6 : Mem) (x7 : Int32) : Mem := sp_X7_put_n1 (wI M6 29 a1.toNatClampNeg x7)
def vc_X7_put_B59 (a1 : Int32) (M6 : Mem) (x7 : Int32) : Prop := vp_in a1 5 ∧ (x7 = 0 ∨ x7 = 1)
def sp_X7_put_n2 (a1 : Int32) (a5 : Int32) (M6 : Mem) : Mem := if a5 ≤ 0 then (sp_X7_put_B59 a1 M6 0) else (sp_X7_put_B59 a1 M6 1)
def vc_X7_put_n2 (a1 : Int32) (a5 : Int32) (M6 : Mem) : Prop := if a5 ≤ 0 then vc_X7_put_B59 a1 M6 0 else vc_X7_put_B59 a1 M6 1
def sp_X7_put_n3 (a1 : Int32) (a5 : Int32) (M5 : Mem) : Mem := sp_X7_put_n2 a1 a5 (wI M5 28 a1.toNatClampNeg a5)
def vc_X7_put_n3 (a1 : Int32) (a5 : Int32) (M5 : Mem) : Prop := vp_in a1 5 ∧ (vc_X7_put_n2 a1 a5 (wI M5 28 a1.toNatClampNeg a5))
def sp_X7_put_n4 (a1 : Int32) (a5 : Int32) (M4 : Mem) : Mem := sp_X7_put_n3 a1 a5 (wI M4 27 a1.toNatClampNeg 0)
def vc_X7_put_n4 (a1 : Int32) (a5 : Int32) (M4 : Mem) : Prop := vp_in a1 5 ∧ (vc_X7_put_n3 a1 a5 (wI M4 27 a1.toNatClampNeg 0))
def sp_X7_put_n5 (a1 : Int32) (a5 : Int32) (M3 : Mem) : Mem := sp_X7_put_n4 a1 a5 (wF M3 26 a1.toNatClampNeg FP.fconst0)
def vc_X7_put_n5 (a1 : Int32) (a5 : Int32) (M3 : Mem) : Prop := vp_in a1 5 ∧ (vc_X7_put_n4 a1 a5 (wF M3 26 a1.toNatClampNeg FP.fconst0))
def sp_X7_put_n6 (a1 : Int32) (a4 : Int32) (a5 : Int32) (M2 : Mem) : Mem := sp_X7_put_n5 a1 a5 (wI M2 25 a1.toNatClampNeg a4)
def vc_X7_put_n6 (a1 : Int32) (a4 : Int32) (a5 : Int32) (M2 : Mem) : Prop := vp_in a1 5 ∧ (vc_X7_put_n5 a1 a5 (wI M2 25 a1.toNatClampNeg a4))
def sp_X7_put_n7 (a1 : Int32) (a3 : Int32) (a4 : Int32) (a5 : Int32) (M1 : Mem) : Mem := sp_X7_put_n6 a1 a4 a5 (wI M1 24 a1.toNatClampNeg a3)
def vc_X7_put_n7 (a1 : Int32) (a3 : Int32) (a4 : Int32) (a5 : Int32) (M1 : Mem) : Prop := vp_in a1 5 ∧ (vc_X7_put_n6 a1 a4 a5 (wI M1 24 a1.toNatClampNeg a3))
def sp_X7_put (M : Mem) (a1 : Int32) (a2 : Int32) (a3 : Int32) (a4 : Int32) (a5 : Int32) : Mem := sp_X7_put_n7 a1 a3 a4 a5 (wI M 23 a1.toNatClampNeg a2)
def vc_X7_put (M : Mem) (a1 : Int32) (a2 : Int32) (a3 : Int32) (a4 : Int32) (a5 : Int32) : Prop := vp_in a1 5 ∧ (vc_X7_put_n7 a1 a3 a4 a5 (wI M 23 a1.toNatClampNeg a2))
def sp_X7_place_n1 (M7 : Mem) : Mem := M7
def sp_X7_place_n2 (M6 : Mem) : Mem := sp_X7_place_n1 (wI M6 20 9 0)
def sp_X7_place_n3 (M5 : Mem) : Mem := sp_X7_place_n2 (wI M5 20 10 0)
def sp_X7_place_n4 (M4 : Mem) : Mem := sp_X7_place_n3 (sp_X7_put M4 4 7 4 0 120)
def vc_X7_place_n4 (M4 : Mem) : Prop := vc_X7_put M4 4 7 4 0 120
def sp_X7_place_n5 (M3 : Mem) : Mem := sp_X7_place_n4 (sp_X7_put M3 3 5 4 0 80)
def vc_X7_place_n5 (M3 : Mem) : Prop := vc_X7_put M3 3 5 4 0 80 ∧ (vc_X7_place_n4 (sp_X7_put M3 3 5 4 0 80))
def sp_X7_place_n6 (M2 : Mem) : Mem := sp_X7_place_n5 (sp_X7_put M2 2 6 4 0 40)
def vc_X7_place_n6 (M2 : Mem) : Prop := vc_X7_put M2 2 6 4 0 40 ∧ (vc_X7_place_n5 (sp_X7_put M2 2 6 4 0 40))
def sp_X7_place_n7 (M1 : Mem) : Mem := sp_X7_place_n6 (sp_X7_put M1 1 6 2 1 0)
def vc_X7_place_n7 (M1 : Mem) : Prop := vc_X7_put M1 1 6 2 1 0 ∧ (vc_X7_place_n6 (sp_X7_put M1 1 6 2 1 0))
def sp_X7_place (M : Mem) : Mem := sp_X7_place_n7 (sp_X7_put M 0 6 6 1 0)
def vc_X7_place (M : Mem) : Prop := vc_X7_put M 0 6 6 1 0 ∧ (vc_X7_place_n7 (sp_X7_put M 0 6 6 1 0))
def sp_X7_across_B19 (x1 : Int32) : Int32 := x1
def sp_X7_across (a1 : Int32) : Int32 := if a1 = 1 then (sp_X7_across_B19 (-1)) else (if a1 = 3 then (sp_X7_across_B19 1) else (sp_X7_across_B19 0))
def sp_X7_down_B18 (x1 : Int32) : Int32 := x1
def sp_X7_down (a1 : Int32) : Int32 := if a1 = 0 then (sp_X7_down_B18 (-1)) else (if a1 = 2 then (sp_X7_down_B18 1) else (sp_X7_down_B18 0))
def sp_X7_around_B25 (x1 : Int32) : Int32 := x1
def sp_X7_around (a1 : Int32) : Int32 := if 0 ≤ a1 then (if a1 ≤ 12 then (sp_X7_around_B25 a1) else (sp_X7_around_B25 (a1 - 13))) else (sp_X7_around_B25 (a1 + 13))
def sp_X7_nextColumn (M : Mem) (a1 : Int32) (a2 : Int32) : Int32 := sp_X7_around ((gI M 23 a1.toNatClampNeg) + (sp_X7_across a2))
def vc_X7_nextColumn (M : Mem) (a1 : Int32) (a2 : Int32) : Prop := vp_in a1 5
def sp_X7_nextRow (M : Mem) (a1 : Int32) (a2 : Int32) : Int32 := (gI M 24 a1.toNatClampNeg) + (sp_X7_down a2)
def vc_X7_nextRow (M : Mem) (a1 : Int32) (a2 : Int32) : Prop := vp_in a1 5
def sp_X7_open_B67 (x3 : Int32) : Int32 := x3
def vc_X7_open_B67 (x3 : Int32) : Prop := (x3 = 0 ∨ x3 = 1)
def sp_X7_open_B66  : Int32 := sp_X7_open_B67 0
def vc_X7_open_B66  : Prop := vc_X7_open_B67 0
def sp_X7_open_B62  : Int32 := sp_X7_open_B67 1
def vc_X7_open_B62  : Prop := vc_X7_open_B67 1
def sp_X7_open_B17  : Int32 := 0
def sp_X7_open_n1 (M : Mem) (a1 : Int32) (x2 : Int32) : Int32 := if x2 = 1 then sp_X7_open_B66 else (if x2 = 4 then (if a1 ≤ 0 then sp_X7_open_B66 else (if (gI M 29 a1.toNatClampNeg) = 0 then sp_X7_open_B66 else sp_X7_open_B62)) else sp_X7_open_B62)
def vc_X7_open_n1 (M : Mem) (a1 : Int32) (x2 : Int32) : Prop := if x2 = 1 then vc_X7_open_B66 else (if x2 = 4 then (if a1 ≤ 0 then vc_X7_open_B66 else (vp_in a1 5 ∧ (if (gI M 29 a1.toNatClampNeg) = 0 then vc_X7_open_B66 else vc_X7_open_B62))) else vc_X7_open_B62)
def sp_X7_open_n2 (M : Mem) (a1 : Int32) (a2 : Int32) (x1 : Int32) : Int32 := if x1 < 0 then sp_X7_open_B17 else (if x1 ≤ 8 then (sp_X7_open_n1 M a1 (gI M 22 (((13 * x1) + (sp_X7_nextColumn M a1 a2)).toNatClampNeg))) else sp_X7_open_B17)
def vc_X7_open_n2 (M : Mem) (a1 : Int32) (a2 : Int32) (x1 : Int32) : Prop := if x1 < 0 then True else (if x1 ≤ 8 then (vc_X7_nextColumn M a1 a2 ∧ ((vp_in ((13 * x1) + (sp_X7_nextColumn M a1 a2)) 117) ∧ (vc_X7_open_n1 M a1 (gI M 22 (((13 * x1) + (sp_X7_nextColumn M a1 a2)).toNatClampNeg))))) else True)
def sp_X7_open (M : Mem) (a1 : Int32) (a2 : Int32) : Int32 := sp_X7_open_n2 M a1 a2 (sp_X7_nextRow M a1 a2)
def vc_X7_open (M : Mem) (a1 : Int32) (a2 : Int32) : Prop := vc_X7_nextRow M a1 a2 ∧ (vc_X7_open_n2 M a1 a2 (sp_X7_nextRow M a1 a2))
def sp_X7_step_n1 (M3 : Mem) : Mem := M3
def sp_X7_step_n2 (a1 : Int32) (x1 : Int32) (M2 : Mem) : Mem := sp_X7_step_n1 (wI M2 23 a1.toNatClampNeg x1)
def vc_X7_step_n2 (a1 : Int32) (x1 : Int32) (M2 : Mem) : Prop := vp_in a1 5
def sp_X7_step_n3 (M : Mem) (a1 : Int32) (x1 : Int32) : Mem := sp_X7_step_n2 a1 x1 (wI M 24 a1.toNatClampNeg (sp_X7_nextRow M a1 (gI M 25 a1.toNatClampNeg)))
def vc_X7_step_n3 (M : Mem) (a1 : Int32) (x1 : Int32) : Prop := vp_in a1 5 ∧ ((vc_X7_nextRow M a1 (gI M 25 a1.toNatClampNeg)) ∧ (vp_in a1 5 ∧ (vc_X7_step_n2 a1 x1 (wI M 24 a1.toNatClampNeg (sp_X7_nextRow M a1 (gI M 25 a1.toNatClampNeg))))))
def sp_X7_step (M : Mem) (a1 : Int32) : Mem := sp_X7_step_n3 M a1 (sp_X7_nextColumn M a1 (gI M 25 a1.toNatClampNeg))
def vc_X7_step (M : Mem) (a1 : Int32) : Prop := vp_in a1 5 ∧ ((vc_X7_nextColumn M a1 (gI M 25 a1.toNatClampNeg)) ∧ (vc_X7_step_n3 M a1 (sp_X7_nextColumn M a1 (gI M 25 a1.toNatClampNeg))))
def sp_X7_points_n1 (M6 : Mem) : Mem := M6
def sp_X7_points_B65 (M4 : Mem) (x5 : Int32) : Mem := sp_X7_points_n1 (wI M4 20 5 x5)
def sp_X7_points_B42 (M4 : Mem) : Mem := if (gI M4 20 4) ≤ (gI M4 20 5) then (sp_X7_points_B65 M4 (gI M4 20 5)) else (sp_X7_points_B65 M4 (gI M4 20 4))
def sp_X7_points_n2 (M3 : Mem) : Mem := sp_X7_points_B42 M3
def sp_X7_points_n3 (M2 : Mem) : Mem := sp_X7_points_n2 (wI M2 20 7 ((gI M2 20 7) + 1))
def sp_X7_points_n4 (M1 : Mem) : Mem := if (gI M1 20 4) < 3000 then (sp_X7_points_B42 M1) else (if (gI M1 20 6) = 0 then (sp_X7_points_n3 (wI M1 20 6 1)) else (sp_X7_points_B42 M1))
def sp_X7_points (M : Mem) (a1 : Int32) : Mem := sp_X7_points_n4 (wI M 20 4 ((gI M 20 4) + a1))
def sp_X7_scatters_B54 (x1 : Int32) : Int32 := x1
def vc_X7_scatters_B54 (x1 : Int32) : Prop := (x1 = 0 ∨ x1 = 1)
def sp_X7_scatters_B53  : Int32 := sp_X7_scatters_B54 0
def vc_X7_scatters_B53  : Prop := vc_X7_scatters_B54 0
def sp_X7_scatters_B49  : Int32 := sp_X7_scatters_B54 1
def vc_X7_scatters_B49  : Prop := vc_X7_scatters_B54 1
def sp_X7_scatters_B29 (M : Mem) : Int32 := if (gI M 20 10) < 600 then sp_X7_scatters_B53 else (if 660 ≤ (gI M 20 10) then sp_X7_scatters_B53 else sp_X7_scatters_B49)
def vc_X7_scatters_B29 (M : Mem) : Prop := if (gI M 20 10) < 600 then vc_X7_scatters_B53 else (if 660 ≤ (gI M 20 10) then vc_X7_scatters_B53 else vc_X7_scatters_B49)
def sp_X7_scatters (M : Mem) : Int32 := if (gI M 20 10) < 100 then sp_X7_scatters_B49 else (if (gI M 20 10) < 300 then (sp_X7_scatters_B29 M) else (if (gI M 20 10) < 380 then sp_X7_scatters_B49 else (sp_X7_scatters_B29 M)))
def vc_X7_scatters (M : Mem) : Prop := if (gI M 20 10) < 100 then vc_X7_scatters_B49 else (if (gI M 20 10) < 300 then vc_X7_scatters_B29 M else (if (gI M 20 10) < 380 then vc_X7_scatters_B49 else vc_X7_scatters_B29 M))
def sp_X7_calm_n1 (K : Int32 → Mem → Mem) (M3 : Mem) (x4 : Int32) : Mem := K x4 M3
def vc_X7_calm_n1 (KV : Int32 → Mem → Prop) (M3 : Mem) (x4 : Int32) : Prop := KV x4 M3
def sp_X7_calm_n2 (K : Int32 → Mem → Mem) (x1 : Int32) (M3 : Mem) : Mem := sp_X7_calm_n1 K M3 (x1 + 1)
def vc_X7_calm_n2 (KV : Int32 → Mem → Prop) (x1 : Int32) (M3 : Mem) : Prop := vc_X7_calm_n1 KV M3 (x1 + 1)
def sp_X7_calm_B2 : Nat → Int32 → Mem → Mem
  | 0, x1, M2 => M2
  | n + 1, x1, M2 => if 5 ≤ x1 then M2 else (sp_X7_calm_n2 (sp_X7_calm_B2 n) x1 (wI M2 27 x1.toNatClampNeg 0))
def vc_X7_calm_B2 : Nat → Int32 → Mem → Prop
  | 0, _, _ => False
  | n + 1, x1, M2 => if 5 ≤ x1 then True else (vp_in x1 5 ∧ (vc_X7_calm_n2 (vc_X7_calm_B2 n) x1 (wI M2 27 x1.toNatClampNeg 0)))
def sp_X7_calm (M : Mem) : Mem := sp_X7_calm_B2 6 0 M
def vc_X7_calm (M : Mem) : Prop := vc_X7_calm_B2 6 0 M
def sp_X7_scare_n1 (K : Int32 → Mem → Mem) (M13 : Mem) (x14 : Int32) : Mem := K x14 M13
def vc_X7_scare_n1 (KV : Int32 → Mem → Prop) (M13 : Mem) (x14 : Int32) : Prop := KV x14 M13
def sp_X7_scare_B134 (K : Int32 → Mem → Mem) (x5 : Int32) (M13 : Mem) : Mem := sp_X7_scare_n1 K M13 (x5 + 1)
def vc_X7_scare_B134 (KV : Int32 → Mem → Prop) (x5 : Int32) (M13 : Mem) : Prop := vc_X7_scare_n1 KV M13 (x5 + 1)
def sp_X7_scare_n2 (K : Int32 → Mem → Mem) (x5 : Int32) (M9 : Mem) : Mem := sp_X7_scare_B134 K x5 M9
def vc_X7_scare_n2 (KV : Int32 → Mem → Prop) (x5 : Int32) (M9 : Mem) : Prop := vc_X7_scare_B134 KV x5 M9
def sp_X7_scare_n3 (K : Int32 → Mem → Mem) (x5 : Int32) (M12 : Mem) : Mem := sp_X7_scare_B134 K x5 M12
def vc_X7_scare_n3 (KV : Int32 → Mem → Prop) (x5 : Int32) (M12 : Mem) : Prop := vc_X7_scare_B134 KV x5 M12
def sp_X7_scare_n4 (K : Int32 → Mem → Mem) (x5 : Int32) (x8 : Int32) (M11 : Mem) : Mem := sp_X7_scare_n3 K x5 (wI M11 25 x5.toNatClampNeg x8)
def vc_X7_scare_n4 (KV : Int32 → Mem → Prop) (x5 : Int32) (x8 : Int32) (M11 : Mem) : Prop := vp_in x5 5 ∧ (vc_X7_scare_n3 KV x5 (wI M11 25 x5.toNatClampNeg x8))
def sp_X7_scare_n5 (K : Int32 → Mem → Mem) (x5 : Int32) (x8 : Int32) (M10 : Mem) : Mem := sp_X7_scare_n4 K x5 x8 (wF M10 26 x5.toNatClampNeg (FP.fsub FP.fconst1 (gF M10 26 x5.toNatClampNeg)))
def vc_X7_scare_n5 (KV : Int32 → Mem → Prop) (x5 : Int32) (x8 : Int32) (M10 : Mem) : Prop := vp_in x5 5 ∧ ((vf_n32 (FP.fsub FP.fconst1 (gF M10 26 x5.toNatClampNeg))) ∧ (vp_in x5 5 ∧ (vc_X7_scare_n4 KV x5 x8 (wF M10 26 x5.toNatClampNeg (FP.fsub FP.fconst1 (gF M10 26 x5.toNatClampNeg))))))
def sp_X7_scare_n6 (K : Int32 → Mem → Mem) (x5 : Int32) (M7 : Mem) (x8 : Int32) : Mem := if (Op.cmpValue (FP.fcmp (gF M7 26 x5.toNatClampNeg) FP.fconst0) .l) = 0 then (if (sp_X7_open M7 x5 x8) = 0 then (sp_X7_scare_B134 K x5 M7) else (sp_X7_scare_n2 K x5 (wI M7 25 x5.toNatClampNeg x8))) else (sp_X7_scare_n5 K x5 x8 (sp_X7_step M7 x5))
def vc_X7_scare_n6 (KV : Int32 → Mem → Prop) (x5 : Int32) (M7 : Mem) (x8 : Int32) : Prop := vp_in x5 5 ∧ (if (Op.cmpValue (FP.fcmp (gF M7 26 x5.toNatClampNeg) FP.fconst0) .l) = 0 then (vc_X7_open M7 x5 x8 ∧ (if (sp_X7_open M7 x5 x8) = 0 then vc_X7_scare_B134 KV x5 M7 else (vp_in x5 5 ∧ (vc_X7_scare_n2 KV x5 (wI M7 25 x5.toNatClampNeg x8))))) else (vc_X7_step M7 x5 ∧ (vc_X7_scare_n5 KV x5 x8 (sp_X7_step M7 x5))))
def sp_X7_scare_n7 (K : Int32 → Mem → Mem) (x5 : Int32) (M7 : Mem) : Mem := sp_X7_scare_n6 K x5 M7 (((gI M7 25 x5.toNatClampNeg) + 2) &&& 3)
def vc_X7_scare_n7 (KV : Int32 → Mem → Prop) (x5 : Int32) (M7 : Mem) : Prop := vp_in x5 5 ∧ (vc_X7_scare_n6 KV x5 M7 (((gI M7 25 x5.toNatClampNeg) + 2) &&& 3))
def sp_X7_scare_B46 : Nat → Int32 → Mem → Mem
  | 0, x5, M6 => M6
  | n + 1, x5, M6 => if 5 ≤ x5 then M6 else (if (gI M6 29 x5.toNatClampNeg) = 0 then (sp_X7_scare_n7 (sp_X7_scare_B46 n) x5 (wI M6 27 x5.toNatClampNeg 1)) else (sp_X7_scare_B134 (sp_X7_scare_B46 n) x5 M6))
def vc_X7_scare_B46 : Nat → Int32 → Mem → Prop
  | 0, _, _ => False
  | n + 1, x5, M6 => if 5 ≤ x5 then True else (vp_in x5 5 ∧ (if (gI M6 29 x5.toNatClampNeg) = 0 then (vp_in x5 5 ∧ (vc_X7_scare_n7 (vc_X7_scare_B46 n) x5 (wI M6 27 x5.toNatClampNeg 1))) else vc_X7_scare_B134 (vc_X7_scare_B46 n) x5 M6))
def sp_X7_scare_n8 (M4 : Mem) : Mem := sp_X7_scare_B46 6 1 M4
def vc_X7_scare_n8 (M4 : Mem) : Prop := vc_X7_scare_B46 6 1 M4
def sp_X7_scare_n9 (M3 : Mem) : Mem := sp_X7_scare_n8 (wI M3 20 11 0)
def vc_X7_scare_n9 (M3 : Mem) : Prop := vc_X7_scare_n8 (wI M3 20 11 0)
def sp_X7_scare_B36 (M1 : Mem) (x2 : Int32) : Mem := sp_X7_scare_n9 (wI M1 20 9 x2)
def vc_X7_scare_B36 (M1 : Mem) (x2 : Int32) : Prop := vc_X7_scare_n9 (wI M1 20 9 x2)
def sp_X7_scare_n10 (M1 : Mem) : Mem := if 10 ≤ (100 - (15 * (gI M1 20 8))) then (sp_X7_scare_B36 M1 (100 - (15 * (gI M1 20 8)))) else (sp_X7_scare_B36 M1 10)
def vc_X7_scare_n10 (M1 : Mem) : Prop := if 10 ≤ (100 - (15 * (gI M1 20 8))) then (vc_X7_scare_B36 M1 (100 - (15 * (gI M1 20 8)))) else vc_X7_scare_B36 M1 10
def sp_X7_scare (M : Mem) : Mem := sp_X7_scare_n10 (wI M 20 29 1)
def vc_X7_scare (M : Mem) : Prop := vc_X7_scare_n10 (wI M 20 29 1)
def sp_X7_player_B260 (M18 : Mem) : Mem := M18
def sp_X7_player_n1 (M17 : Mem) : Mem := sp_X7_player_B260 M17
def sp_X7_player_n2 (x11 : Int32) (M16 : Mem) : Mem := if x11 = 3 then (sp_X7_player_n1 (sp_X7_scare M16)) else (sp_X7_player_B260 M16)
def vc_X7_player_n2 (x11 : Int32) (M16 : Mem) : Prop := if x11 = 3 then vc_X7_scare M16 else True
def sp_X7_player_B248 (x11 : Int32) (M14 : Mem) (x15 : Int32) : Mem := sp_X7_player_n2 x11 (sp_X7_points M14 x15)
def vc_X7_player_B248 (x11 : Int32) (M14 : Mem) (x15 : Int32) : Prop := vc_X7_player_n2 x11 (sp_X7_points M14 x15)
def sp_X7_player_n3 (x11 : Int32) (M14 : Mem) : Mem := if x11 = 2 then (sp_X7_player_B248 x11 M14 10) else (sp_X7_player_B248 x11 M14 50)
def vc_X7_player_n3 (x11 : Int32) (M14 : Mem) : Prop := if x11 = 2 then vc_X7_player_B248 x11 M14 10 else vc_X7_player_B248 x11 M14 50
def sp_X7_player_B232 (x11 : Int32) (M12 : Mem) (x13 : Int32) : Mem := sp_X7_player_n3 x11 (wI M12 20 28 x13)
def vc_X7_player_B232 (x11 : Int32) (M12 : Mem) (x13 : Int32) : Prop := (x13 = 0 ∨ x13 = 1) ∧ (vc_X7_player_n3 x11 (wI M12 20 28 x13))
def sp_X7_player_B227 (x11 : Int32) (M12 : Mem) : Mem := sp_X7_player_B232 x11 M12 1
def vc_X7_player_B227 (x11 : Int32) (M12 : Mem) : Prop := vc_X7_player_B232 x11 M12 1
def sp_X7_player_n4 (x11 : Int32) (M12 : Mem) : Mem := if (gI M12 20 28) = 0 then (if x11 = 2 then (sp_X7_player_B227 x11 M12) else (sp_X7_player_B232 x11 M12 0)) else (sp_X7_player_B227 x11 M12)
def vc_X7_player_n4 (x11 : Int32) (M12 : Mem) : Prop := if (gI M12 20 28) = 0 then (if x11 = 2 then vc_X7_player_B227 x11 M12 else vc_X7_player_B232 x11 M12 0) else vc_X7_player_B227 x11 M12
def sp_X7_player_B207 (M9 : Mem) (x10 : Int32) (x11 : Int32) : Mem := sp_X7_player_n4 x11 (wI M9 22 x10.toNatClampNeg 0)
def vc_X7_player_B207 (M9 : Mem) (x10 : Int32) (x11 : Int32) : Prop := vp_in x10 117 ∧ (vc_X7_player_n4 x11 (wI M9 22 x10.toNatClampNeg 0))
def sp_X7_player_n5 (M9 : Mem) (x10 : Int32) (x11 : Int32) : Mem := if x11 = 2 then (sp_X7_player_B207 M9 x10 x11) else (if x11 = 3 then (sp_X7_player_B207 M9 x10 x11) else (sp_X7_player_B260 M9))
def vc_X7_player_n5 (M9 : Mem) (x10 : Int32) (x11 : Int32) : Prop := if x11 = 2 then vc_X7_player_B207 M9 x10 x11 else (if x11 = 3 then vc_X7_player_B207 M9 x10 x11 else True)
def sp_X7_player_n6 (M9 : Mem) (x10 : Int32) : Mem := sp_X7_player_n5 M9 x10 (gI M9 22 x10.toNatClampNeg)
def vc_X7_player_n6 (M9 : Mem) (x10 : Int32) : Prop := vp_in x10 117 ∧ (vc_X7_player_n5 M9 x10 (gI M9 22 x10.toNatClampNeg))
def sp_X7_player_B173 (M9 : Mem) : Mem := sp_X7_player_n6 M9 ((13 * (gI M9 24 0)) + (gI M9 23 0))
def vc_X7_player_B173 (M9 : Mem) : Prop := vc_X7_player_n6 M9 ((13 * (gI M9 24 0)) + (gI M9 23 0))
def sp_X7_player_n7 (M8 : Mem) : Mem := sp_X7_player_B173 M8
def vc_X7_player_n7 (M8 : Mem) : Prop := vc_X7_player_B173 M8
def sp_X7_player_B166 (M7 : Mem) : Mem := sp_X7_player_n7 (wF M7 26 0 FP.fconst0)
def vc_X7_player_B166 (M7 : Mem) : Prop := vc_X7_player_n7 (wF M7 26 0 FP.fconst0)
def sp_X7_player_n8 (M7 : Mem) : Mem := if (sp_X7_open M7 0 (gI M7 25 0)) = 0 then (sp_X7_player_B166 M7) else (if (gI M7 20 15) < 0 then (sp_X7_player_B173 M7) else (if (sp_X7_open M7 0 (gI M7 20 15)) = 0 then (sp_X7_player_B173 M7) else (sp_X7_player_B166 M7)))
def vc_X7_player_n8 (M7 : Mem) : Prop := (vc_X7_open M7 0 (gI M7 25 0)) ∧ (if (sp_X7_open M7 0 (gI M7 25 0)) = 0 then vc_X7_player_B166 M7 else (if (gI M7 20 15) < 0 then vc_X7_player_B173 M7 else ((vc_X7_open M7 0 (gI M7 20 15)) ∧ (if (sp_X7_open M7 0 (gI M7 20 15)) = 0 then vc_X7_player_B173 M7 else vc_X7_player_B166 M7))))
def sp_X7_player_n9 (M6 : Mem) : Mem := sp_X7_player_n8 (wF M6 26 0 (FP.fsub (gF M6 26 0) FP.fconst1))
def vc_X7_player_n9 (M6 : Mem) : Prop := (vf_n32 (FP.fsub (gF M6 26 0) FP.fconst1)) ∧ (vc_X7_player_n8 (wF M6 26 0 (FP.fsub (gF M6 26 0) FP.fconst1)))
def sp_X7_player_n10 (M5 : Mem) : Mem := if 0 ≤ (Op.cmpValue (FP.fcmp (gF M5 26 0) FP.fconst1) .g) then (sp_X7_player_n9 (sp_X7_step M5 0)) else M5
def vc_X7_player_n10 (M5 : Mem) : Prop := if 0 ≤ (Op.cmpValue (FP.fcmp (gF M5 26 0) FP.fconst1) .g) then (vc_X7_step M5 0 ∧ (vc_X7_player_n9 (sp_X7_step M5 0))) else True
def sp_X7_player_B78 (M2 : Mem) (x4 : Int32) : Mem := sp_X7_player_n10 (wF M2 26 0 (FP.fadd (gF M2 26 0) (FP.fmul 1045220557 (FP.fadd FP.fconst1 (FP.fmul 1028443341 (FP.i2f x4))))))
def vc_X7_player_B78 (M2 : Mem) (x4 : Int32) : Prop := (vf_n32 (FP.fmul 1028443341 (FP.i2f x4))) ∧ ((vf_n32 (FP.fadd FP.fconst1 (FP.fmul 1028443341 (FP.i2f x4)))) ∧ ((vf_n32 (FP.fmul 1045220557 (FP.fadd FP.fconst1 (FP.fmul 1028443341 (FP.i2f x4))))) ∧ ((vf_n32 (FP.fadd (gF M2 26 0) (FP.fmul 1045220557 (FP.fadd FP.fconst1 (FP.fmul 1028443341 (FP.i2f x4)))))) ∧ (vc_X7_player_n10 (wF M2 26 0 (FP.fadd (gF M2 26 0) (FP.fmul 1045220557 (FP.fadd FP.fconst1 (FP.fmul 1028443341 (FP.i2f x4))))))))))
def sp_X7_player_n11 (M3 : Mem) : Mem := M3
def sp_X7_player_B40 (M2 : Mem) : Mem := if (sp_X7_open M2 0 (gI M2 25 0)) = 0 then (sp_X7_player_n11 (wF M2 26 0 FP.fconst0)) else (if (gI M2 20 8) ≤ 4 then (sp_X7_player_B78 M2 (gI M2 20 8)) else (sp_X7_player_B78 M2 4))
def vc_X7_player_B40 (M2 : Mem) : Prop := (vc_X7_open M2 0 (gI M2 25 0)) ∧ (if (sp_X7_open M2 0 (gI M2 25 0)) = 0 then True else (if (gI M2 20 8) ≤ 4 then (vc_X7_player_B78 M2 (gI M2 20 8)) else vc_X7_player_B78 M2 4))
def sp_X7_player_n12 (M1 : Mem) : Mem := sp_X7_player_B40 M1
def vc_X7_player_n12 (M1 : Mem) : Prop := vc_X7_player_B40 M1
def sp_X7_player (M : Mem) : Mem := if (gI M 20 15) < 0 then (sp_X7_player_B40 M) else (if (sp_X7_open M 0 (gI M 20 15)) = 0 then (sp_X7_player_B40 M) else (if (Op.cmpValue (FP.fcmp (gF M 26 0) FP.fconst0) .l) = 0 then (sp_X7_player_n12 (wI M 25 0 (gI M 20 15))) else (sp_X7_player_B40 M)))
def vc_X7_player (M : Mem) : Prop := if (gI M 20 15) < 0 then vc_X7_player_B40 M else ((vc_X7_open M 0 (gI M 20 15)) ∧ (if (sp_X7_open M 0 (gI M 20 15)) = 0 then vc_X7_player_B40 M else (if (Op.cmpValue (FP.fcmp (gF M 26 0) FP.fconst0) .l) = 0 then (vc_X7_player_n12 (wI M 25 0 (gI M 20 15))) else vc_X7_player_B40 M)))
def sp_X7_cornerColumn_B13 (x1 : Int32) : Int32 := x1
def sp_X7_cornerColumn (a1 : Int32) : Int32 := if (a1 - a1 / 2 * 2) = 1 then (sp_X7_cornerColumn_B13 11) else (sp_X7_cornerColumn_B13 1)
def sp_X7_cornerRow_B11 (x1 : Int32) : Int32 := x1
def sp_X7_cornerRow (a1 : Int32) : Int32 := if 3 ≤ a1 then (sp_X7_cornerRow_B11 7) else (sp_X7_cornerRow_B11 1)
def sp_X7_distance (a1 : Int32) (a2 : Int32) (a3 : Int32) (a4 : Int32) : Int32 := ((a1 - a3) * (a1 - a3)) + ((a2 - a4) * (a2 - a4))
def sp_X7_aim_B180 (x6 : Int32) : Int32 := x6
def sp_X7_aim_B174 (x3 : Int32) (x4 : Int32) (x5 : Int32) : Int32 := sp_X7_aim_B180 ((2 * (x3 + x4)) - x5)
def sp_X7_aim_B128 (M : Mem) (a1 : Int32) (a2 : Int32) (x3 : Int32) (x4 : Int32) : Int32 := if a1 = 2 then (x3 + (2 * x4)) else (if a1 = 3 then (if a2 = 0 then (sp_X7_aim_B174 x3 x4 (gI M 24 1)) else (sp_X7_aim_B174 x3 x4 (gI M 23 1))) else (sp_X7_aim_B180 x3))
def sp_X7_aim_B101 (M : Mem) (a1 : Int32) (a2 : Int32) (x3 : Int32) : Int32 := if a2 = 0 then (sp_X7_aim_B128 M a1 a2 x3 (sp_X7_down (gI M 25 0))) else (sp_X7_aim_B128 M a1 a2 x3 (sp_X7_across (gI M 25 0)))
def sp_X7_aim_B82 (M : Mem) (a1 : Int32) (a2 : Int32) : Int32 := if a2 = 0 then (sp_X7_aim_B101 M a1 a2 (gI M 24 0)) else (sp_X7_aim_B101 M a1 a2 (gI M 23 0))
def sp_X7_aim_B80 (x2 : Int32) : Int32 := x2
def sp_X7_aim_B35 (M : Mem) (a1 : Int32) (a2 : Int32) (x2 : Int32) : Int32 := if (sp_X7_scatters M) = 0 then (if a1 = 4 then (if 9 ≤ (sp_X7_distance (gI M 23 4) (gI M 24 4) (gI M 23 0) (gI M 24 0)) then (sp_X7_aim_B82 M a1 a2) else (sp_X7_aim_B80 x2)) else (sp_X7_aim_B82 M a1 a2)) else (sp_X7_aim_B80 x2)
def vc_X7_aim_B35 (M : Mem) (a1 : Int32) (a2 : Int32) (x2 : Int32) : Prop := vc_X7_scatters M
def sp_X7_aim_B19 (x1 : Int32) : Int32 := x1
def sp_X7_aim (M : Mem) (a1 : Int32) (a2 : Int32) : Int32 := if (gI M 29 a1.toNatClampNeg) = 0 then (if a2 = 0 then (sp_X7_aim_B35 M a1 a2 (sp_X7_cornerRow a1)) else (sp_X7_aim_B35 M a1 a2 (sp_X7_cornerColumn a1))) else (if a2 = 0 then (sp_X7_aim_B19 2) else (sp_X7_aim_B19 6))
def vc_X7_aim (M : Mem) (a1 : Int32) (a2 : Int32) : Prop := vp_in a1 5 ∧ (if (gI M 29 a1.toNatClampNeg) = 0 then (if a2 = 0 then (vc_X7_aim_B35 M a1 a2 (sp_X7_cornerRow a1)) else (vc_X7_aim_B35 M a1 a2 (sp_X7_cornerColumn a1))) else True)
def sp_X7_drawn_n1 (M1 : Mem) : Int32 × Mem := (((gI M1 20 14) >>> (16 &&& 31)) &&& 3, M1)
def sp_X7_drawn (M : Mem) : Int32 × Mem := sp_X7_drawn_n1 (wI M 20 14 (((gI M 20 14) * 1103515245) + 12345))
def sp_X7_choose_n1 (M23 : Mem) : Mem := M23
def sp_X7_choose_B215 (a1 : Int32) (M11 : Mem) (x22 : Int32) : Mem := sp_X7_choose_n1 (wI M11 25 a1.toNatClampNeg x22)
def vc_X7_choose_B215 (a1 : Int32) (M11 : Mem) (x22 : Int32) : Prop := vp_in a1 5
def sp_X7_choose_n2 (K : Int32 → Int32 → Int32 → Mem → Int32 → Int32 → Int32 → Int32 → Int32 → Mem) (a1 : Int32) (x7 : Int32) (x10 : Int32) (M11 : Mem) (x12 : Int32) (x13 : Int32) (x19 : Int32) (x20 : Int32) (x21 : Int32) : Mem := K a1 x7 x10 M11 x12 x13 x19 x20 x21
def vc_X7_choose_n2 (KV : Int32 → Int32 → Int32 → Mem → Int32 → Int32 → Int32 → Int32 → Int32 → Prop) (a1 : Int32) (x7 : Int32) (x10 : Int32) (M11 : Mem) (x12 : Int32) (x13 : Int32) (x19 : Int32) (x20 : Int32) (x21 : Int32) : Prop := KV a1 x7 x10 M11 x12 x13 x19 x20 x21
def sp_X7_choose_B188 (K : Int32 → Int32 → Int32 → Mem → Int32 → Int32 → Int32 → Int32 → Int32 → Mem) (a1 : Int32) (x7 : Int32) (x10 : Int32) (M11 : Mem) (x12 : Int32) (x13 : Int32) (x16 : Int32) (x19 : Int32) (x20 : Int32) : Mem := sp_X7_choose_n2 K a1 x7 x10 M11 x12 x13 x19 x20 (x16 + 1)
def vc_X7_choose_B188 (KV : Int32 → Int32 → Int32 → Mem → Int32 → Int32 → Int32 → Int32 → Int32 → Prop) (a1 : Int32) (x7 : Int32) (x10 : Int32) (M11 : Mem) (x12 : Int32) (x13 : Int32) (x16 : Int32) (x19 : Int32) (x20 : Int32) : Prop := vc_X7_choose_n2 KV a1 x7 x10 M11 x12 x13 x19 x20 (x16 + 1)
def sp_X7_choose_B180 (K : Int32 → Int32 → Int32 → Mem → Int32 → Int32 → Int32 → Int32 → Int32 → Mem) (a1 : Int32) (x7 : Int32) (x10 : Int32) (M11 : Mem) (x12 : Int32) (x13 : Int32) (x16 : Int32) (x17 : Int32) (x18 : Int32) : Mem := sp_X7_choose_B188 K a1 x7 x10 M11 x12 x13 x16 x17 x18
def vc_X7_choose_B180 (KV : Int32 → Int32 → Int32 → Mem → Int32 → Int32 → Int32 → Int32 → Int32 → Prop) (a1 : Int32) (x7 : Int32) (x10 : Int32) (M11 : Mem) (x12 : Int32) (x13 : Int32) (x16 : Int32) (x17 : Int32) (x18 : Int32) : Prop := vc_X7_choose_B188 KV a1 x7 x10 M11 x12 x13 x16 x17 x18
def sp_X7_choose_B166 (K : Int32 → Int32 → Int32 → Mem → Int32 → Int32 → Int32 → Int32 → Int32 → Mem) (a1 : Int32) (x7 : Int32) (x10 : Int32) (M11 : Mem) (x12 : Int32) (x13 : Int32) (x14 : Int32) (x15 : Int32) (x16 : Int32) (x17 : Int32) (x18 : Int32) : Mem := if x14 < 0 then (sp_X7_choose_B180 K a1 x7 x10 M11 x12 x13 x16 x17 x18) else (if x15 ≤ x18 then (sp_X7_choose_B188 K a1 x7 x10 M11 x12 x13 x16 x14 x15) else (sp_X7_choose_B180 K a1 x7 x10 M11 x12 x13 x16 x17 x18))
def vc_X7_choose_B166 (KV : Int32 → Int32 → Int32 → Mem → Int32 → Int32 → Int32 → Int32 → Int32 → Prop) (a1 : Int32) (x7 : Int32) (x10 : Int32) (M11 : Mem) (x12 : Int32) (x13 : Int32) (x14 : Int32) (x15 : Int32) (x16 : Int32) (x17 : Int32) (x18 : Int32) : Prop := if x14 < 0 then vc_X7_choose_B180 KV a1 x7 x10 M11 x12 x13 x16 x17 x18 else (if x15 ≤ x18 then vc_X7_choose_B188 KV a1 x7 x10 M11 x12 x13 x16 x14 x15 else vc_X7_choose_B180 KV a1 x7 x10 M11 x12 x13 x16 x17 x18)
def sp_X7_choose_n3 (K : Int32 → Int32 → Int32 → Mem → Int32 → Int32 → Int32 → Int32 → Int32 → Mem) (a1 : Int32) (x7 : Int32) (x10 : Int32) (M11 : Mem) (x12 : Int32) (x13 : Int32) (x14 : Int32) (x15 : Int32) (x16 : Int32) (x17 : Int32) : Mem := if ((x7 >>> (x17 &&& 31)) &&& 1) = 1 then (if (gI M11 27 a1.toNatClampNeg) = 0 then (sp_X7_choose_B166 K a1 x7 x10 M11 x12 x13 x14 x15 x16 x17 (sp_X7_distance (sp_X7_nextColumn M11 a1 x17) (sp_X7_nextRow M11 a1 x17) x12 x13)) else (sp_X7_choose_B166 K a1 x7 x10 M11 x12 x13 x14 x15 x16 x17 0)) else (sp_X7_choose_B188 K a1 x7 x10 M11 x12 x13 x16 x14 x15)
def vc_X7_choose_n3 (KV : Int32 → Int32 → Int32 → Mem → Int32 → Int32 → Int32 → Int32 → Int32 → Prop) (a1 : Int32) (x7 : Int32) (x10 : Int32) (M11 : Mem) (x12 : Int32) (x13 : Int32) (x14 : Int32) (x15 : Int32) (x16 : Int32) (x17 : Int32) : Prop := if ((x7 >>> (x17 &&& 31)) &&& 1) = 1 then (vp_in a1 5 ∧ (if (gI M11 27 a1.toNatClampNeg) = 0 then (vc_X7_nextColumn M11 a1 x17 ∧ (vc_X7_nextRow M11 a1 x17 ∧ (vc_X7_choose_B166 KV a1 x7 x10 M11 x12 x13 x14 x15 x16 x17 (sp_X7_distance (sp_X7_nextColumn M11 a1 x17) (sp_X7_nextRow M11 a1 x17) x12 x13)))) else vc_X7_choose_B166 KV a1 x7 x10 M11 x12 x13 x14 x15 x16 x17 0)) else vc_X7_choose_B188 KV a1 x7 x10 M11 x12 x13 x16 x14 x15
def sp_X7_choose_B107 : Nat → Int32 → Int32 → Int32 → Mem → Int32 → Int32 → Int32 → Int32 → Int32 → Mem
  | 0, a1, x7, x10, M11, x12, x13, x14, x15, x16 => M11
  | n + 1, a1, x7, x10, M11, x12, x13, x14, x15, x16 => if 4 ≤ x16 then (if 0 ≤ x14 then (sp_X7_choose_B215 a1 M11 x14) else (sp_X7_choose_B215 a1 M11 (gI M11 25 a1.toNatClampNeg))) else (sp_X7_choose_n3 (sp_X7_choose_B107 n) a1 x7 x10 M11 x12 x13 x14 x15 x16 ((x10 + x16) &&& 3))
def vc_X7_choose_B107 : Nat → Int32 → Int32 → Int32 → Mem → Int32 → Int32 → Int32 → Int32 → Int32 → Prop
  | 0, _, _, _, _, _, _, _, _, _ => False
  | n + 1, a1, x7, x10, M11, x12, x13, x14, x15, x16 => if 4 ≤ x16 then (if 0 ≤ x14 then vc_X7_choose_B215 a1 M11 x14 else (vp_in a1 5 ∧ (vc_X7_choose_B215 a1 M11 (gI M11 25 a1.toNatClampNeg)))) else (vc_X7_choose_n3 (vc_X7_choose_B107 n) a1 x7 x10 M11 x12 x13 x14 x15 x16 ((x10 + x16) &&& 3))
def sp_X7_choose_n4 (a1 : Int32) (x7 : Int32) (x10 : Int32) (M11 : Mem) (x12 : Int32) (x13 : Int32) : Mem := sp_X7_choose_B107 6 a1 x7 x10 M11 x12 x13 (-1) 0 0
def vc_X7_choose_n4 (a1 : Int32) (x7 : Int32) (x10 : Int32) (M11 : Mem) (x12 : Int32) (x13 : Int32) : Prop := vc_X7_choose_B107 6 a1 x7 x10 M11 x12 x13 (-1) 0 0
def sp_X7_choose_n5 (a1 : Int32) (x7 : Int32) (x10 : Int32) (M11 : Mem) (x12 : Int32) : Mem := sp_X7_choose_n4 a1 x7 x10 M11 x12 (sp_X7_aim M11 a1 0)
def vc_X7_choose_n5 (a1 : Int32) (x7 : Int32) (x10 : Int32) (M11 : Mem) (x12 : Int32) : Prop := vc_X7_aim M11 a1 0 ∧ (vc_X7_choose_n4 a1 x7 x10 M11 x12 (sp_X7_aim M11 a1 0))
def sp_X7_choose_B80 (a1 : Int32) (x7 : Int32) (x10 : Int32) (M11 : Mem) : Mem := sp_X7_choose_n5 a1 x7 x10 M11 (sp_X7_aim M11 a1 1)
def vc_X7_choose_B80 (a1 : Int32) (x7 : Int32) (x10 : Int32) (M11 : Mem) : Prop := vc_X7_aim M11 a1 1 ∧ (vc_X7_choose_n5 a1 x7 x10 M11 (sp_X7_aim M11 a1 1))
def sp_X7_choose_n6 (a1 : Int32) (x7 : Int32) (M8 : Mem) (x9 : Int32) : Mem := sp_X7_choose_B80 a1 x7 x9 M8
def vc_X7_choose_n6 (a1 : Int32) (x7 : Int32) (M8 : Mem) (x9 : Int32) : Prop := vc_X7_choose_B80 a1 x7 x9 M8
def sp_X7_choose_B63 (M : Mem) (a1 : Int32) (x7 : Int32) : Mem := if (gI M 27 a1.toNatClampNeg) = 0 then (sp_X7_choose_B80 a1 x7 0 M) else (sp_X7_choose_n6 a1 x7 ((sp_X7_drawn M).2) ((sp_X7_drawn M).1))
def vc_X7_choose_B63 (M : Mem) (a1 : Int32) (x7 : Int32) : Prop := vp_in a1 5 ∧ (if (gI M 27 a1.toNatClampNeg) = 0 then vc_X7_choose_B80 a1 x7 0 M else (vc_X7_choose_n6 a1 x7 ((sp_X7_drawn M).2) ((sp_X7_drawn M).1)))
def sp_X7_choose_n7 (K : Mem → Int32 → Int32 → Int32 → Int32 → Mem) (M : Mem) (a1 : Int32) (x1 : Int32) (x5 : Int32) (x6 : Int32) : Mem := K M a1 x1 x5 x6
def vc_X7_choose_n7 (KV : Mem → Int32 → Int32 → Int32 → Int32 → Prop) (M : Mem) (a1 : Int32) (x1 : Int32) (x5 : Int32) (x6 : Int32) : Prop := KV M a1 x1 x5 x6
def sp_X7_choose_B48 (K : Mem → Int32 → Int32 → Int32 → Int32 → Mem) (M : Mem) (a1 : Int32) (x1 : Int32) (x3 : Int32) (x5 : Int32) : Mem := sp_X7_choose_n7 K M a1 x1 x5 (x3 + 1)
def vc_X7_choose_B48 (KV : Mem → Int32 → Int32 → Int32 → Int32 → Prop) (M : Mem) (a1 : Int32) (x1 : Int32) (x3 : Int32) (x5 : Int32) : Prop := vc_X7_choose_n7 KV M a1 x1 x5 (x3 + 1)
def sp_X7_choose_B47 (K : Mem → Int32 → Int32 → Int32 → Int32 → Mem) (M : Mem) (a1 : Int32) (x1 : Int32) (x2 : Int32) (x3 : Int32) : Mem := sp_X7_choose_B48 K M a1 x1 x3 x2
def vc_X7_choose_B47 (KV : Mem → Int32 → Int32 → Int32 → Int32 → Prop) (M : Mem) (a1 : Int32) (x1 : Int32) (x2 : Int32) (x3 : Int32) : Prop := vc_X7_choose_B48 KV M a1 x1 x3 x2
def sp_X7_choose_n8 (M : Mem) (a1 : Int32) (x4 : Int32) : Mem := sp_X7_choose_B63 M a1 x4
def vc_X7_choose_n8 (M : Mem) (a1 : Int32) (x4 : Int32) : Prop := vc_X7_choose_B63 M a1 x4
def sp_X7_choose_B16 : Nat → Mem → Int32 → Int32 → Int32 → Int32 → Mem
  | 0, M, a1, x1, x2, x3 => M
  | n + 1, M, a1, x1, x2, x3 => if 4 ≤ x3 then (if x2 = 0 then (sp_X7_choose_n8 M a1 (1 <<< (x1 &&& 31))) else (sp_X7_choose_B63 M a1 x2)) else (if x3 = x1 then (sp_X7_choose_B47 (sp_X7_choose_B16 n) M a1 x1 x2 x3) else (if (sp_X7_open M a1 x3) = 0 then (sp_X7_choose_B47 (sp_X7_choose_B16 n) M a1 x1 x2 x3) else (sp_X7_choose_B48 (sp_X7_choose_B16 n) M a1 x1 x3 (x2 ||| (1 <<< (x3 &&& 31))))))
def vc_X7_choose_B16 : Nat → Mem → Int32 → Int32 → Int32 → Int32 → Prop
  | 0, _, _, _, _, _ => False
  | n + 1, M, a1, x1, x2, x3 => if 4 ≤ x3 then (if x2 = 0 then (vc_X7_choose_n8 M a1 (1 <<< (x1 &&& 31))) else vc_X7_choose_B63 M a1 x2) else (if x3 = x1 then vc_X7_choose_B47 (vc_X7_choose_B16 n) M a1 x1 x2 x3 else (vc_X7_open M a1 x3 ∧ (if (sp_X7_open M a1 x3) = 0 then vc_X7_choose_B47 (vc_X7_choose_B16 n) M a1 x1 x2 x3 else (vc_X7_choose_B48 (vc_X7_choose_B16 n) M a1 x1 x3 (x2 ||| (1 <<< (x3 &&& 31)))))))
def sp_X7_choose_n9 (M : Mem) (a1 : Int32) (x1 : Int32) : Mem := sp_X7_choose_B16 6 M a1 x1 0 0
def vc_X7_choose_n9 (M : Mem) (a1 : Int32) (x1 : Int32) : Prop := vc_X7_choose_B16 6 M a1 x1 0 0
def sp_X7_choose (M : Mem) (a1 : Int32) : Mem := sp_X7_choose_n9 M a1 (((gI M 25 a1.toNatClampNeg) + 2) &&& 3)
def vc_X7_choose (M : Mem) (a1 : Int32) : Prop := vp_in a1 5 ∧ (vc_X7_choose_n9 M a1 (((gI M 25 a1.toNatClampNeg) + 2) &&& 3))
def sp_X7_hunter_B154 (M13 : Mem) : Mem := M13
def sp_X7_hunter_n1 (M12 : Mem) : Mem := sp_X7_hunter_B154 M12
def sp_X7_hunter_B149 (a1 : Int32) (M11 : Mem) : Mem := sp_X7_hunter_n1 (sp_X7_choose M11 a1)
def vc_X7_hunter_B149 (a1 : Int32) (M11 : Mem) : Prop := vc_X7_choose M11 a1
def sp_X7_hunter_n2 (a1 : Int32) (M10 : Mem) : Mem := sp_X7_hunter_B149 a1 M10
def vc_X7_hunter_n2 (a1 : Int32) (M10 : Mem) : Prop := vc_X7_hunter_B149 a1 M10
def sp_X7_hunter_n3 (a1 : Int32) (M9 : Mem) : Mem := if (gI M9 23 a1.toNatClampNeg) = 6 then (if (gI M9 24 a1.toNatClampNeg) = 2 then (sp_X7_hunter_n2 a1 (wI M9 29 a1.toNatClampNeg 0)) else (sp_X7_hunter_B149 a1 M9)) else (sp_X7_hunter_B149 a1 M9)
def vc_X7_hunter_n3 (a1 : Int32) (M9 : Mem) : Prop := vp_in a1 5 ∧ (if (gI M9 23 a1.toNatClampNeg) = 6 then (vp_in a1 5 ∧ (if (gI M9 24 a1.toNatClampNeg) = 2 then (vp_in a1 5 ∧ (vc_X7_hunter_n2 a1 (wI M9 29 a1.toNatClampNeg 0))) else vc_X7_hunter_B149 a1 M9)) else vc_X7_hunter_B149 a1 M9)
def sp_X7_hunter_n4 (a1 : Int32) (M8 : Mem) : Mem := sp_X7_hunter_n3 a1 (wF M8 26 a1.toNatClampNeg (FP.fsub (gF M8 26 a1.toNatClampNeg) FP.fconst1))
def vc_X7_hunter_n4 (a1 : Int32) (M8 : Mem) : Prop := vp_in a1 5 ∧ ((vf_n32 (FP.fsub (gF M8 26 a1.toNatClampNeg) FP.fconst1)) ∧ (vp_in a1 5 ∧ (vc_X7_hunter_n3 a1 (wF M8 26 a1.toNatClampNeg (FP.fsub (gF M8 26 a1.toNatClampNeg) FP.fconst1)))))
def sp_X7_hunter_n5 (a1 : Int32) (M7 : Mem) : Mem := if (Op.cmpValue (FP.fcmp (gF M7 26 a1.toNatClampNeg) FP.fconst1) .l) < 0 then (sp_X7_hunter_B154 M7) else (sp_X7_hunter_n4 a1 (sp_X7_step M7 a1))
def vc_X7_hunter_n5 (a1 : Int32) (M7 : Mem) : Prop := vp_in a1 5 ∧ (if (Op.cmpValue (FP.fcmp (gF M7 26 a1.toNatClampNeg) FP.fconst1) .l) < 0 then True else (vc_X7_step M7 a1 ∧ (vc_X7_hunter_n4 a1 (sp_X7_step M7 a1))))
def sp_X7_hunter_B89 (M : Mem) (a1 : Int32) (f6 : UInt32) : Mem := sp_X7_hunter_n5 a1 (wF M 26 a1.toNatClampNeg (FP.fadd (gF M 26 a1.toNatClampNeg) f6))
def vc_X7_hunter_B89 (M : Mem) (a1 : Int32) (f6 : UInt32) : Prop := (vf_n32 (FP.fadd (gF M 26 a1.toNatClampNeg) f6)) ∧ (vp_in a1 5 ∧ (vc_X7_hunter_n5 a1 (wF M 26 a1.toNatClampNeg (FP.fadd (gF M 26 a1.toNatClampNeg) f6))))
def sp_X7_hunter_n6 (M : Mem) (a1 : Int32) (f5 : UInt32) : Mem := if (gI M 27 a1.toNatClampNeg) = 0 then (sp_X7_hunter_B89 M a1 f5) else (sp_X7_hunter_B89 M a1 (FP.fdiv f5 FP.fconst2))
def vc_X7_hunter_n6 (M : Mem) (a1 : Int32) (f5 : UInt32) : Prop := vp_in a1 5 ∧ (vp_in a1 5 ∧ (if (gI M 27 a1.toNatClampNeg) = 0 then vc_X7_hunter_B89 M a1 f5 else ((vf_n32 (FP.fdiv f5 FP.fconst2)) ∧ (vc_X7_hunter_B89 M a1 (FP.fdiv f5 FP.fconst2)))))
def sp_X7_hunter_B50 (M : Mem) (a1 : Int32) (x4 : Int32) : Mem := sp_X7_hunter_n6 M a1 (FP.fmul 1044549468 (FP.fadd FP.fconst1 (FP.fmul 1025758986 (FP.i2f x4))))
def vc_X7_hunter_B50 (M : Mem) (a1 : Int32) (x4 : Int32) : Prop := (vf_n32 (FP.fmul 1025758986 (FP.i2f x4))) ∧ ((vf_n32 (FP.fadd FP.fconst1 (FP.fmul 1025758986 (FP.i2f x4)))) ∧ ((vf_n32 (FP.fmul 1044549468 (FP.fadd FP.fconst1 (FP.fmul 1025758986 (FP.i2f x4))))) ∧ (vc_X7_hunter_n6 M a1 (FP.fmul 1044549468 (FP.fadd FP.fconst1 (FP.fmul 1025758986 (FP.i2f x4)))))))
def sp_X7_hunter_B33 (M3 : Mem) : Mem := M3
def sp_X7_hunter_n7 (M2 : Mem) : Mem := sp_X7_hunter_B33 M2
def sp_X7_hunter_n8 (a1 : Int32) (M1 : Mem) : Mem := if (gI M1 28 a1.toNatClampNeg) = 0 then (sp_X7_hunter_n7 (sp_X7_choose M1 a1)) else (sp_X7_hunter_B33 M1)
def vc_X7_hunter_n8 (a1 : Int32) (M1 : Mem) : Prop := vp_in a1 5 ∧ (if (gI M1 28 a1.toNatClampNeg) = 0 then vc_X7_choose M1 a1 else True)
def sp_X7_hunter (M : Mem) (a1 : Int32) : Mem := if (gI M 28 a1.toNatClampNeg) ≤ 0 then (if (gI M 20 8) ≤ 5 then (sp_X7_hunter_B50 M a1 (gI M 20 8)) else (sp_X7_hunter_B50 M a1 5)) else (sp_X7_hunter_n8 a1 (wI M 28 a1.toNatClampNeg ((gI M 28 a1.toNatClampNeg) - 1)))
def vc_X7_hunter (M : Mem) (a1 : Int32) : Prop := vp_in a1 5 ∧ (if (gI M 28 a1.toNatClampNeg) ≤ 0 then (if (gI M 20 8) ≤ 5 then (vc_X7_hunter_B50 M a1 (gI M 20 8)) else vc_X7_hunter_B50 M a1 5) else (vp_in a1 5 ∧ (vp_in a1 5 ∧ (vc_X7_hunter_n8 a1 (wI M 28 a1.toNatClampNeg ((gI M 28 a1.toNatClampNeg) - 1))))))
def sp_X7_met_B115 (x3 : Int32) : Int32 := x3
def vc_X7_met_B115 (x3 : Int32) : Prop := (x3 = 0 ∨ x3 = 1)
def sp_X7_met_B110  : Int32 := sp_X7_met_B115 1
def vc_X7_met_B110  : Prop := vc_X7_met_B115 1
def sp_X7_met_B101 (x1 : Int32) (x2 : Int32) : Int32 := if x1 = 0 then (if x2 = 0 then (sp_X7_met_B115 0) else sp_X7_met_B110) else sp_X7_met_B110
def vc_X7_met_B101 (x1 : Int32) (x2 : Int32) : Prop := if x1 = 0 then (if x2 = 0 then vc_X7_met_B115 0 else vc_X7_met_B110) else vc_X7_met_B110
def sp_X7_met_B100 (x1 : Int32) : Int32 := sp_X7_met_B101 x1 0
def vc_X7_met_B100 (x1 : Int32) : Prop := vc_X7_met_B101 x1 0
def sp_X7_met_B35 (M : Mem) (a1 : Int32) (x1 : Int32) : Int32 := if (gI M 23 a1.toNatClampNeg) = (gI M 30 0) then (if (gI M 24 a1.toNatClampNeg) = (gI M 31 0) then (if (gI M 23 0) = (gI M 30 a1.toNatClampNeg) then (if (gI M 24 0) = (gI M 31 a1.toNatClampNeg) then (sp_X7_met_B101 x1 1) else (sp_X7_met_B100 x1)) else (sp_X7_met_B100 x1)) else (sp_X7_met_B100 x1)) else (sp_X7_met_B100 x1)
def vc_X7_met_B35 (M : Mem) (a1 : Int32) (x1 : Int32) : Prop := vp_in a1 5 ∧ (if (gI M 23 a1.toNatClampNeg) = (gI M 30 0) then (vp_in a1 5 ∧ (if (gI M 24 a1.toNatClampNeg) = (gI M 31 0) then (vp_in a1 5 ∧ (if (gI M 23 0) = (gI M 30 a1.toNatClampNeg) then (vp_in a1 5 ∧ (if (gI M 24 0) = (gI M 31 a1.toNatClampNeg) then vc_X7_met_B101 x1 1 else vc_X7_met_B100 x1)) else vc_X7_met_B100 x1)) else vc_X7_met_B100 x1)) else vc_X7_met_B100 x1)
def sp_X7_met_B34 (M : Mem) (a1 : Int32) : Int32 := sp_X7_met_B35 M a1 0
def vc_X7_met_B34 (M : Mem) (a1 : Int32) : Prop := vc_X7_met_B35 M a1 0
def sp_X7_met (M : Mem) (a1 : Int32) : Int32 := if (gI M 23 a1.toNatClampNeg) = (gI M 23 0) then (if (gI M 24 a1.toNatClampNeg) = (gI M 24 0) then (sp_X7_met_B35 M a1 1) else (sp_X7_met_B34 M a1)) else (sp_X7_met_B34 M a1)
def vc_X7_met (M : Mem) (a1 : Int32) : Prop := vp_in a1 5 ∧ (if (gI M 23 a1.toNatClampNeg) = (gI M 23 0) then (vp_in a1 5 ∧ (if (gI M 24 a1.toNatClampNeg) = (gI M 24 0) then vc_X7_met_B35 M a1 1 else vc_X7_met_B34 M a1)) else vc_X7_met_B34 M a1)
def sp_X7_meet_B147 (M15 : Mem) : Mem := M15
def sp_X7_meet_n1 (M14 : Mem) : Mem := sp_X7_meet_B147 M14
def sp_X7_meet_B129 (M2 : Mem) : Mem := if (gI M2 20 30) = 0 then (sp_X7_meet_B147 M2) else (if (gI M2 20 3) = 0 then (sp_X7_meet_B147 M2) else (sp_X7_meet_n1 (sp_X7_place M2)))
def vc_X7_meet_B129 (M2 : Mem) : Prop := if (gI M2 20 30) = 0 then True else (if (gI M2 20 3) = 0 then True else vc_X7_place M2)
def sp_X7_meet_n2 (K : Int32 → Mem → Mem) (M12 : Mem) (x13 : Int32) : Mem := K x13 M12
def vc_X7_meet_n2 (KV : Int32 → Mem → Prop) (M12 : Mem) (x13 : Int32) : Prop := KV x13 M12
def sp_X7_meet_B123 (K : Int32 → Mem → Mem) (x1 : Int32) (M12 : Mem) : Mem := sp_X7_meet_n2 K M12 (x1 + 1)
def vc_X7_meet_B123 (KV : Int32 → Mem → Prop) (x1 : Int32) (M12 : Mem) : Prop := vc_X7_meet_n2 KV M12 (x1 + 1)
def sp_X7_meet_n3 (K : Int32 → Mem → Mem) (x1 : Int32) (M11 : Mem) : Mem := sp_X7_meet_B123 K x1 M11
def vc_X7_meet_n3 (KV : Int32 → Mem → Prop) (x1 : Int32) (M11 : Mem) : Prop := vc_X7_meet_B123 KV x1 M11
def sp_X7_meet_B120 (K : Int32 → Mem → Mem) (x1 : Int32) (M9 : Mem) (x10 : Int32) : Mem := sp_X7_meet_n3 K x1 (wI M9 20 3 x10)
def vc_X7_meet_B120 (KV : Int32 → Mem → Prop) (x1 : Int32) (M9 : Mem) (x10 : Int32) : Prop := (x10 = 0 ∨ x10 = 1) ∧ (vc_X7_meet_n3 KV x1 (wI M9 20 3 x10))
def sp_X7_meet_n4 (K : Int32 → Mem → Mem) (x1 : Int32) (M9 : Mem) : Mem := if (gI M9 20 7) ≤ 0 then (sp_X7_meet_B120 K x1 M9 0) else (sp_X7_meet_B120 K x1 M9 1)
def vc_X7_meet_n4 (KV : Int32 → Mem → Prop) (x1 : Int32) (M9 : Mem) : Prop := if (gI M9 20 7) ≤ 0 then vc_X7_meet_B120 KV x1 M9 0 else vc_X7_meet_B120 KV x1 M9 1
def sp_X7_meet_n5 (K : Int32 → Mem → Mem) (x1 : Int32) (M8 : Mem) : Mem := sp_X7_meet_n4 K x1 (wI M8 20 7 ((gI M8 20 7) - 1))
def vc_X7_meet_n5 (KV : Int32 → Mem → Prop) (x1 : Int32) (M8 : Mem) : Prop := vc_X7_meet_n4 KV x1 (wI M8 20 7 ((gI M8 20 7) - 1))
def sp_X7_meet_B84 (K : Int32 → Mem → Mem) (x1 : Int32) (M2 : Mem) : Mem := if (sp_X7_met M2 x1) = 0 then (sp_X7_meet_B123 K x1 M2) else (sp_X7_meet_n5 K x1 (wI M2 20 30 1))
def vc_X7_meet_B84 (KV : Int32 → Mem → Prop) (x1 : Int32) (M2 : Mem) : Prop := vc_X7_met M2 x1 ∧ (if (sp_X7_met M2 x1) = 0 then vc_X7_meet_B123 KV x1 M2 else (vc_X7_meet_n5 KV x1 (wI M2 20 30 1)))
def sp_X7_meet_n6 (K : Int32 → Mem → Mem) (x1 : Int32) (M7 : Mem) : Mem := sp_X7_meet_B123 K x1 M7
def vc_X7_meet_n6 (KV : Int32 → Mem → Prop) (x1 : Int32) (M7 : Mem) : Prop := vc_X7_meet_B123 KV x1 M7
def sp_X7_meet_n7 (K : Int32 → Mem → Mem) (x1 : Int32) (M6 : Mem) : Mem := sp_X7_meet_n6 K x1 (wI M6 20 29 1)
def vc_X7_meet_n7 (KV : Int32 → Mem → Prop) (x1 : Int32) (M6 : Mem) : Prop := vc_X7_meet_n6 KV x1 (wI M6 20 29 1)
def sp_X7_meet_n8 (K : Int32 → Mem → Mem) (x1 : Int32) (M5 : Mem) : Mem := sp_X7_meet_n7 K x1 (sp_X7_put M5 x1 6 4 0 30)
def vc_X7_meet_n8 (KV : Int32 → Mem → Prop) (x1 : Int32) (M5 : Mem) : Prop := vc_X7_put M5 x1 6 4 0 30 ∧ (vc_X7_meet_n7 KV x1 (sp_X7_put M5 x1 6 4 0 30))
def sp_X7_meet_B62 (K : Int32 → Mem → Mem) (x1 : Int32) (M3 : Mem) (x4 : Int32) : Mem := sp_X7_meet_n8 K x1 (wI M3 20 11 x4)
def vc_X7_meet_B62 (KV : Int32 → Mem → Prop) (x1 : Int32) (M3 : Mem) (x4 : Int32) : Prop := vc_X7_meet_n8 KV x1 (wI M3 20 11 x4)
def sp_X7_meet_n9 (K : Int32 → Mem → Mem) (x1 : Int32) (M3 : Mem) : Mem := if 3 ≤ (gI M3 20 11) then (sp_X7_meet_B62 K x1 M3 3) else (sp_X7_meet_B62 K x1 M3 ((gI M3 20 11) + 1))
def vc_X7_meet_n9 (KV : Int32 → Mem → Prop) (x1 : Int32) (M3 : Mem) : Prop := if 3 ≤ (gI M3 20 11) then vc_X7_meet_B62 KV x1 M3 3 else (vc_X7_meet_B62 KV x1 M3 ((gI M3 20 11) + 1))
def sp_X7_meet_B2 : Nat → Int32 → Mem → Mem
  | 0, x1, M2 => M2
  | n + 1, x1, M2 => if 5 ≤ x1 then (sp_X7_meet_B129 M2) else (if (gI M2 20 30) = 0 then (if (sp_X7_met M2 x1) = 0 then (sp_X7_meet_B84 (sp_X7_meet_B2 n) x1 M2) else (if (gI M2 27 x1.toNatClampNeg) = 0 then (sp_X7_meet_B84 (sp_X7_meet_B2 n) x1 M2) else (sp_X7_meet_n9 (sp_X7_meet_B2 n) x1 (sp_X7_points M2 (200 <<< ((gI M2 20 11) &&& 31)))))) else (sp_X7_meet_B129 M2))
def vc_X7_meet_B2 : Nat → Int32 → Mem → Prop
  | 0, _, _ => False
  | n + 1, x1, M2 => if 5 ≤ x1 then vc_X7_meet_B129 M2 else (if (gI M2 20 30) = 0 then (vc_X7_met M2 x1 ∧ (if (sp_X7_met M2 x1) = 0 then vc_X7_meet_B84 (vc_X7_meet_B2 n) x1 M2 else (vp_in x1 5 ∧ (if (gI M2 27 x1.toNatClampNeg) = 0 then vc_X7_meet_B84 (vc_X7_meet_B2 n) x1 M2 else (vc_X7_meet_n9 (vc_X7_meet_B2 n) x1 (sp_X7_points M2 (200 <<< ((gI M2 20 11) &&& 31)))))))) else vc_X7_meet_B129 M2)
def sp_X7_meet (M : Mem) : Mem := sp_X7_meet_B2 6 1 M
def vc_X7_meet (M : Mem) : Prop := vc_X7_meet_B2 6 1 M
def sp_X7_left_n1 (K : Mem → Int32 → Int32 → Int32) (M : Mem) (x3 : Int32) (x4 : Int32) : Int32 := K M x3 x4
def vc_X7_left_n1 (KV : Mem → Int32 → Int32 → Prop) (M : Mem) (x3 : Int32) (x4 : Int32) : Prop := KV M x3 x4
def sp_X7_left_B37 (K : Mem → Int32 → Int32 → Int32) (M : Mem) (x2 : Int32) (x3 : Int32) : Int32 := sp_X7_left_n1 K M x3 (x2 + 1)
def vc_X7_left_B37 (KV : Mem → Int32 → Int32 → Prop) (M : Mem) (x2 : Int32) (x3 : Int32) : Prop := vc_X7_left_n1 KV M x3 (x2 + 1)
def sp_X7_left_B30 (K : Mem → Int32 → Int32 → Int32) (M : Mem) (x1 : Int32) (x2 : Int32) : Int32 := sp_X7_left_B37 K M x2 (x1 + 1)
def vc_X7_left_B30 (KV : Mem → Int32 → Int32 → Prop) (M : Mem) (x1 : Int32) (x2 : Int32) : Prop := vc_X7_left_B37 KV M x2 (x1 + 1)
def sp_X7_left_B4 : Nat → Mem → Int32 → Int32 → Int32
  | 0, M, x1, x2 => 0
  | n + 1, M, x1, x2 => if 117 ≤ x2 then x1 else (if (gI M 22 x2.toNatClampNeg) = 2 then (sp_X7_left_B30 (sp_X7_left_B4 n) M x1 x2) else (if (gI M 22 x2.toNatClampNeg) = 3 then (sp_X7_left_B30 (sp_X7_left_B4 n) M x1 x2) else (sp_X7_left_B37 (sp_X7_left_B4 n) M x2 x1)))
def vc_X7_left_B4 : Nat → Mem → Int32 → Int32 → Prop
  | 0, _, _, _ => False
  | n + 1, M, x1, x2 => if 117 ≤ x2 then True else (vp_in x2 117 ∧ (if (gI M 22 x2.toNatClampNeg) = 2 then vc_X7_left_B30 (vc_X7_left_B4 n) M x1 x2 else (vp_in x2 117 ∧ (if (gI M 22 x2.toNatClampNeg) = 3 then vc_X7_left_B30 (vc_X7_left_B4 n) M x1 x2 else vc_X7_left_B37 (vc_X7_left_B4 n) M x2 x1))))
def sp_X7_left (M : Mem) : Int32 := sp_X7_left_B4 118 M 0 0
def vc_X7_left (M : Mem) : Prop := vc_X7_left_B4 118 M 0 0
def sp_X7_play_B136 (M19 : Mem) : Mem := M19
def sp_X7_play_n1 (M16 : Mem) : Mem := sp_X7_play_B136 M16
def sp_X7_play_n2 (M15 : Mem) : Mem := sp_X7_play_n1 (sp_X7_place M15)
def vc_X7_play_n2 (M15 : Mem) : Prop := vc_X7_place M15
def sp_X7_play_n3 (M14 : Mem) : Mem := sp_X7_play_n2 (sp_X7_fill M14)
def vc_X7_play_n3 (M14 : Mem) : Prop := vc_X7_fill M14 ∧ (vc_X7_play_n2 (sp_X7_fill M14))
def sp_X7_play_n4 (M13 : Mem) : Mem := if (gI M13 20 30) = 0 then (if (sp_X7_left M13) = 0 then (sp_X7_play_n3 (wI M13 20 8 ((gI M13 20 8) + 1))) else (sp_X7_play_B136 M13)) else (sp_X7_play_B136 M13)
def vc_X7_play_n4 (M13 : Mem) : Prop := if (gI M13 20 30) = 0 then (vc_X7_left M13 ∧ (if (sp_X7_left M13) = 0 then (vc_X7_play_n3 (wI M13 20 8 ((gI M13 20 8) + 1))) else True)) else True
def sp_X7_play_n5 (K : Int32 → Mem → Mem) (M17 : Mem) (x18 : Int32) : Mem := K x18 M17
def vc_X7_play_n5 (KV : Int32 → Mem → Prop) (M17 : Mem) (x18 : Int32) : Prop := KV x18 M17
def sp_X7_play_n6 (K : Int32 → Mem → Mem) (x11 : Int32) (M17 : Mem) : Mem := sp_X7_play_n5 K M17 (x11 + 1)
def vc_X7_play_n6 (KV : Int32 → Mem → Prop) (x11 : Int32) (M17 : Mem) : Prop := vc_X7_play_n5 KV M17 (x11 + 1)
def sp_X7_play_B84 : Nat → Int32 → Mem → Mem
  | 0, x11, M12 => M12
  | n + 1, x11, M12 => if 5 ≤ x11 then (sp_X7_play_n4 (sp_X7_meet M12)) else (sp_X7_play_n6 (sp_X7_play_B84 n) x11 (sp_X7_hunter M12 x11))
def vc_X7_play_B84 : Nat → Int32 → Mem → Prop
  | 0, _, _ => False
  | n + 1, x11, M12 => if 5 ≤ x11 then (vc_X7_meet M12 ∧ (vc_X7_play_n4 (sp_X7_meet M12))) else (vc_X7_hunter M12 x11 ∧ (vc_X7_play_n6 (vc_X7_play_B84 n) x11 (sp_X7_hunter M12 x11)))
def sp_X7_play_n7 (M7 : Mem) : Mem := sp_X7_play_B84 6 1 M7
def vc_X7_play_n7 (M7 : Mem) : Prop := vc_X7_play_B84 6 1 M7
def sp_X7_play_n8 (K : Int32 → Mem → Mem) (M9 : Mem) (x10 : Int32) : Mem := K x10 M9
def vc_X7_play_n8 (KV : Int32 → Mem → Prop) (M9 : Mem) (x10 : Int32) : Prop := KV x10 M9
def sp_X7_play_n9 (K : Int32 → Mem → Mem) (x5 : Int32) (M9 : Mem) : Mem := sp_X7_play_n8 K M9 (x5 + 1)
def vc_X7_play_n9 (KV : Int32 → Mem → Prop) (x5 : Int32) (M9 : Mem) : Prop := vc_X7_play_n8 KV M9 (x5 + 1)
def sp_X7_play_n10 (K : Int32 → Mem → Mem) (x5 : Int32) (M8 : Mem) : Mem := sp_X7_play_n9 K x5 (wI M8 31 x5.toNatClampNeg (gI M8 24 x5.toNatClampNeg))
def vc_X7_play_n10 (KV : Int32 → Mem → Prop) (x5 : Int32) (M8 : Mem) : Prop := vp_in x5 5 ∧ (vp_in x5 5 ∧ (vc_X7_play_n9 KV x5 (wI M8 31 x5.toNatClampNeg (gI M8 24 x5.toNatClampNeg))))
def sp_X7_play_B43 : Nat → Int32 → Mem → Mem
  | 0, x5, M6 => M6
  | n + 1, x5, M6 => if 5 ≤ x5 then (sp_X7_play_n7 (sp_X7_player M6)) else (sp_X7_play_n10 (sp_X7_play_B43 n) x5 (wI M6 30 x5.toNatClampNeg (gI M6 23 x5.toNatClampNeg)))
def vc_X7_play_B43 : Nat → Int32 → Mem → Prop
  | 0, _, _ => False
  | n + 1, x5, M6 => if 5 ≤ x5 then (vc_X7_player M6 ∧ (vc_X7_play_n7 (sp_X7_player M6))) else (vp_in x5 5 ∧ (vp_in x5 5 ∧ (vc_X7_play_n10 (vc_X7_play_B43 n) x5 (wI M6 30 x5.toNatClampNeg (gI M6 23 x5.toNatClampNeg)))))
def sp_X7_play_B41 (M4 : Mem) : Mem := sp_X7_play_B43 6 0 M4
def vc_X7_play_B41 (M4 : Mem) : Prop := vc_X7_play_B43 6 0 M4
def sp_X7_play_n11 (M1 : Mem) : Mem := sp_X7_play_B41 M1
def vc_X7_play_n11 (M1 : Mem) : Prop := vc_X7_play_B41 M1
def sp_X7_play_n12 (M3 : Mem) : Mem := sp_X7_play_B41 M3
def vc_X7_play_n12 (M3 : Mem) : Prop := vc_X7_play_B41 M3
def sp_X7_play_n13 (M2 : Mem) : Mem := if (gI M2 20 9) = 0 then (sp_X7_play_n12 (sp_X7_calm M2)) else (sp_X7_play_B41 M2)
def vc_X7_play_n13 (M2 : Mem) : Prop := if (gI M2 20 9) = 0 then (vc_X7_calm M2 ∧ (vc_X7_play_n12 (sp_X7_calm M2))) else vc_X7_play_B41 M2
def sp_X7_play (M : Mem) : Mem := if (gI M 20 9) ≤ 0 then (sp_X7_play_n11 (wI M 20 10 ((gI M 20 10) + 1))) else (sp_X7_play_n13 (wI M 20 9 ((gI M 20 9) - 1)))
def vc_X7_play (M : Mem) : Prop := if (gI M 20 9) ≤ 0 then (vc_X7_play_n11 (wI M 20 10 ((gI M 20 10) + 1))) else (vc_X7_play_n13 (wI M 20 9 ((gI M 20 9) - 1)))
def sp_X7_voice_n1 (M2 : Mem) : Mem := M2
def sp_X7_voice_n2 (a1 : Int32) (a3 : Int32) (M1 : Mem) : Mem := sp_X7_voice_n1 (wI M1 33 a1.toNatClampNeg a3)
def vc_X7_voice_n2 (a1 : Int32) (a3 : Int32) (M1 : Mem) : Prop := vp_in a1 3
def sp_X7_voice (M : Mem) (a1 : Int32) (a2 : UInt32) (a3 : Int32) : Mem := sp_X7_voice_n2 a1 a3 (wF M 34 a1.toNatClampNeg a2)
def vc_X7_voice (M : Mem) (a1 : Int32) (a2 : UInt32) (a3 : Int32) : Prop := vp_in a1 3 ∧ (vc_X7_voice_n2 a1 a3 (wF M 34 a1.toNatClampNeg a2))
def sp_X7_hear_B153 (M14 : Mem) : Mem := M14
def sp_X7_hear_n1 (M13 : Mem) : Mem := sp_X7_hear_B153 M13
def sp_X7_hear_B137 (M12 : Mem) : Mem := if (gI M12 20 30) = 0 then (sp_X7_hear_B153 M12) else (sp_X7_hear_n1 (sp_X7_voice M12 2 1069547520 100))
def vc_X7_hear_B137 (M12 : Mem) : Prop := if (gI M12 20 30) = 0 then True else vc_X7_voice M12 2 1069547520 100
def sp_X7_hear_n2 (M11 : Mem) : Mem := sp_X7_hear_B137 M11
def vc_X7_hear_n2 (M11 : Mem) : Prop := vc_X7_hear_B137 M11
def sp_X7_hear_B120 (M10 : Mem) : Mem := if (gI M10 20 29) = 0 then (sp_X7_hear_B137 M10) else (sp_X7_hear_n2 (sp_X7_voice M10 2 1069547520 1500))
def vc_X7_hear_B120 (M10 : Mem) : Prop := if (gI M10 20 29) = 0 then vc_X7_hear_B137 M10 else (vc_X7_voice M10 2 1069547520 1500 ∧ (vc_X7_hear_n2 (sp_X7_voice M10 2 1069547520 1500)))
def sp_X7_hear_n3 (M9 : Mem) : Mem := sp_X7_hear_B120 M9
def vc_X7_hear_n3 (M9 : Mem) : Prop := vc_X7_hear_B120 M9
def sp_X7_hear_B117 (M7 : Mem) (x8 : Int32) : Mem := sp_X7_hear_n3 (sp_X7_voice M7 1 1056964608 x8)
def vc_X7_hear_B117 (M7 : Mem) (x8 : Int32) : Prop := vc_X7_voice M7 1 1056964608 x8 ∧ (vc_X7_hear_n3 (sp_X7_voice M7 1 1056964608 x8))
def sp_X7_hear_B69 (M7 : Mem) : Mem := if (gI M7 20 3) = 0 then (sp_X7_hear_B120 M7) else (if (gI M7 20 9) ≤ 0 then (if (sp_X7_scatters M7) = 0 then (sp_X7_hear_B117 M7 (300 + (10 * (gI M7 20 8)))) else (sp_X7_hear_B117 M7 300)) else (sp_X7_hear_B117 M7 600))
def vc_X7_hear_B69 (M7 : Mem) : Prop := if (gI M7 20 3) = 0 then vc_X7_hear_B120 M7 else (if (gI M7 20 9) ≤ 0 then (vc_X7_scatters M7 ∧ (if (sp_X7_scatters M7) = 0 then (vc_X7_hear_B117 M7 (300 + (10 * (gI M7 20 8)))) else vc_X7_hear_B117 M7 300)) else vc_X7_hear_B117 M7 600)
def sp_X7_hear_n4 (M3 : Mem) : Mem := sp_X7_hear_B69 M3
def vc_X7_hear_n4 (M3 : Mem) : Prop := vc_X7_hear_B69 M3
def sp_X7_hear_n5 (K : Int32 → Mem → Mem) (M5 : Mem) (x6 : Int32) : Mem := K x6 M5
def vc_X7_hear_n5 (KV : Int32 → Mem → Prop) (M5 : Mem) (x6 : Int32) : Prop := KV x6 M5
def sp_X7_hear_n6 (K : Int32 → Mem → Mem) (x1 : Int32) (M5 : Mem) : Mem := sp_X7_hear_n5 K M5 (x1 + 1)
def vc_X7_hear_n6 (KV : Int32 → Mem → Prop) (x1 : Int32) (M5 : Mem) : Prop := vc_X7_hear_n5 KV M5 (x1 + 1)
def sp_X7_hear_n7 (K : Int32 → Mem → Mem) (x1 : Int32) (M4 : Mem) : Mem := sp_X7_hear_n6 K x1 (wF M4 34 x1.toNatClampNeg (FP.fmul (gF M4 34 x1.toNatClampNeg) 1063675494))
def vc_X7_hear_n7 (KV : Int32 → Mem → Prop) (x1 : Int32) (M4 : Mem) : Prop := vp_in x1 3 ∧ ((vf_n32 (FP.fmul (gF M4 34 x1.toNatClampNeg) 1063675494)) ∧ (vp_in x1 3 ∧ (vc_X7_hear_n6 KV x1 (wF M4 34 x1.toNatClampNeg (FP.fmul (gF M4 34 x1.toNatClampNeg) 1063675494)))))
def sp_X7_hear_B2 : Nat → Int32 → Mem → Mem
  | 0, x1, M2 => M2
  | n + 1, x1, M2 => if 3 ≤ x1 then (if (gI M2 20 28) = 0 then (sp_X7_hear_B69 M2) else (sp_X7_hear_n4 (sp_X7_voice M2 0 FP.fconst1 900))) else (sp_X7_hear_n7 (sp_X7_hear_B2 n) x1 (wI M2 32 x1.toNatClampNeg ((((gI M2 32 x1.toNatClampNeg) + (gI M2 33 x1.toNatClampNeg)) <<< (16 &&& 31)) >>> (16 &&& 31))))
def vc_X7_hear_B2 : Nat → Int32 → Mem → Prop
  | 0, _, _ => False
  | n + 1, x1, M2 => if 3 ≤ x1 then (if (gI M2 20 28) = 0 then vc_X7_hear_B69 M2 else (vc_X7_voice M2 0 FP.fconst1 900 ∧ (vc_X7_hear_n4 (sp_X7_voice M2 0 FP.fconst1 900)))) else (vp_in x1 3 ∧ (vp_in x1 3 ∧ (vp_in x1 3 ∧ (vc_X7_hear_n7 (vc_X7_hear_B2 n) x1 (wI M2 32 x1.toNatClampNeg ((((gI M2 32 x1.toNatClampNeg) + (gI M2 33 x1.toNatClampNeg)) <<< (16 &&& 31)) >>> (16 &&& 31)))))))
def sp_X7_hear (M : Mem) : Mem := sp_X7_hear_B2 4 0 M
def vc_X7_hear (M : Mem) : Prop := vc_X7_hear_B2 4 0 M
def sp_X7_reset_n1 (K : Int32 → Mem → Mem) (M17 : Mem) (x18 : Int32) : Mem := K x18 M17
def vc_X7_reset_n1 (KV : Int32 → Mem → Prop) (M17 : Mem) (x18 : Int32) : Prop := KV x18 M17
def sp_X7_reset_n2 (K : Int32 → Mem → Mem) (x13 : Int32) (M17 : Mem) : Mem := sp_X7_reset_n1 K M17 (x13 + 1)
def vc_X7_reset_n2 (KV : Int32 → Mem → Prop) (x13 : Int32) (M17 : Mem) : Prop := vc_X7_reset_n1 KV M17 (x13 + 1)
def sp_X7_reset_n3 (K : Int32 → Mem → Mem) (x13 : Int32) (M16 : Mem) : Mem := sp_X7_reset_n2 K x13 (wF M16 34 x13.toNatClampNeg FP.fconst0)
def vc_X7_reset_n3 (KV : Int32 → Mem → Prop) (x13 : Int32) (M16 : Mem) : Prop := vp_in x13 3 ∧ (vc_X7_reset_n2 KV x13 (wF M16 34 x13.toNatClampNeg FP.fconst0))
def sp_X7_reset_n4 (K : Int32 → Mem → Mem) (x13 : Int32) (M15 : Mem) : Mem := sp_X7_reset_n3 K x13 (wI M15 33 x13.toNatClampNeg 0)
def vc_X7_reset_n4 (KV : Int32 → Mem → Prop) (x13 : Int32) (M15 : Mem) : Prop := vp_in x13 3 ∧ (vc_X7_reset_n3 KV x13 (wI M15 33 x13.toNatClampNeg 0))
def sp_X7_reset_B60 : Nat → Int32 → Mem → Mem
  | 0, x13, M14 => M14
  | n + 1, x13, M14 => if 3 ≤ x13 then M14 else (sp_X7_reset_n4 (sp_X7_reset_B60 n) x13 (wI M14 32 x13.toNatClampNeg 0))
def vc_X7_reset_B60 : Nat → Int32 → Mem → Prop
  | 0, _, _ => False
  | n + 1, x13, M14 => if 3 ≤ x13 then True else (vp_in x13 3 ∧ (vc_X7_reset_n4 (vc_X7_reset_B60 n) x13 (wI M14 32 x13.toNatClampNeg 0)))
def sp_X7_reset_n5 (M12 : Mem) : Mem := sp_X7_reset_B60 4 0 M12
def vc_X7_reset_n5 (M12 : Mem) : Prop := vc_X7_reset_B60 4 0 M12
def sp_X7_reset_n6 (M11 : Mem) : Mem := sp_X7_reset_n5 (sp_X7_place M11)
def vc_X7_reset_n6 (M11 : Mem) : Prop := vc_X7_place M11 ∧ (vc_X7_reset_n5 (sp_X7_place M11))
def sp_X7_reset_n7 (M10 : Mem) : Mem := sp_X7_reset_n6 (sp_X7_fill M10)
def vc_X7_reset_n7 (M10 : Mem) : Prop := vc_X7_fill M10 ∧ (vc_X7_reset_n6 (sp_X7_fill M10))
def sp_X7_reset_n8 (M9 : Mem) : Mem := sp_X7_reset_n7 (wI M9 20 15 (-1))
def vc_X7_reset_n8 (M9 : Mem) : Prop := vc_X7_reset_n7 (wI M9 20 15 (-1))
def sp_X7_reset_n9 (M8 : Mem) : Mem := sp_X7_reset_n8 (wI M8 20 14 1)
def vc_X7_reset_n9 (M8 : Mem) : Prop := vc_X7_reset_n8 (wI M8 20 14 1)
def sp_X7_reset_n10 (M7 : Mem) : Mem := sp_X7_reset_n9 (wI M7 20 12 0)
def vc_X7_reset_n10 (M7 : Mem) : Prop := vc_X7_reset_n9 (wI M7 20 12 0)
def sp_X7_reset_n11 (M6 : Mem) : Mem := sp_X7_reset_n10 (wI M6 20 11 0)
def vc_X7_reset_n11 (M6 : Mem) : Prop := vc_X7_reset_n10 (wI M6 20 11 0)
def sp_X7_reset_n12 (M5 : Mem) : Mem := sp_X7_reset_n11 (wI M5 20 8 0)
def vc_X7_reset_n12 (M5 : Mem) : Prop := vc_X7_reset_n11 (wI M5 20 8 0)
def sp_X7_reset_n13 (M4 : Mem) : Mem := sp_X7_reset_n12 (wI M4 20 7 0)
def vc_X7_reset_n13 (M4 : Mem) : Prop := vc_X7_reset_n12 (wI M4 20 7 0)
def sp_X7_reset_n14 (M3 : Mem) : Mem := sp_X7_reset_n13 (wI M3 20 6 0)
def vc_X7_reset_n14 (M3 : Mem) : Prop := vc_X7_reset_n13 (wI M3 20 6 0)
def sp_X7_reset_n15 (M2 : Mem) : Mem := sp_X7_reset_n14 (wI M2 20 4 0)
def vc_X7_reset_n15 (M2 : Mem) : Prop := vc_X7_reset_n14 (wI M2 20 4 0)
def sp_X7_reset_n16 (M1 : Mem) : Mem := sp_X7_reset_n15 (wI M1 20 3 0)
def vc_X7_reset_n16 (M1 : Mem) : Prop := vc_X7_reset_n15 (wI M1 20 3 0)
def sp_X7_reset (M : Mem) : Mem := sp_X7_reset_n16 (wI M 20 2 0)
def vc_X7_reset (M : Mem) : Prop := vc_X7_reset_n16 (wI M 20 2 0)
def sp_X7_frame_B63 (M10 : Mem) : Mem := M10
def sp_X7_frame_n1 (M9 : Mem) : Mem := sp_X7_frame_B63 M9
def sp_X7_frame_n2 (M8 : Mem) : Mem := if (gI M8 20 12) = 120 then (sp_X7_frame_n1 (sp_X7_reset M8)) else (sp_X7_frame_B63 M8)
def vc_X7_frame_n2 (M8 : Mem) : Prop := if (gI M8 20 12) = 120 then vc_X7_reset M8 else True
def sp_X7_frame_n3 (M7 : Mem) : Mem := sp_X7_frame_n2 (wI M7 20 12 ((gI M7 20 12) + 1))
def vc_X7_frame_n3 (M7 : Mem) : Prop := vc_X7_frame_n2 (wI M7 20 12 ((gI M7 20 12) + 1))
def sp_X7_frame_n4 (M6 : Mem) : Mem := sp_X7_frame_n3 (wI M6 20 13 ((gI M6 20 13) + 1))
def vc_X7_frame_n4 (M6 : Mem) : Prop := vc_X7_frame_n3 (wI M6 20 13 ((gI M6 20 13) + 1))
def sp_X7_frame_B26 (M5 : Mem) : Mem := sp_X7_frame_n4 (sp_X7_hear M5)
def vc_X7_frame_B26 (M5 : Mem) : Prop := vc_X7_hear M5 ∧ (vc_X7_frame_n4 (sp_X7_hear M5))
def sp_X7_frame_n5 (M4 : Mem) : Mem := sp_X7_frame_B26 M4
def vc_X7_frame_n5 (M4 : Mem) : Prop := vc_X7_frame_B26 M4
def sp_X7_frame_n6 (M3 : Mem) : Mem := if (gI M3 20 3) = 0 then (sp_X7_frame_B26 M3) else (sp_X7_frame_n5 (sp_X7_play M3))
def vc_X7_frame_n6 (M3 : Mem) : Prop := if (gI M3 20 3) = 0 then vc_X7_frame_B26 M3 else (vc_X7_play M3 ∧ (vc_X7_frame_n5 (sp_X7_play M3)))
def sp_X7_frame_n7 (M2 : Mem) : Mem := sp_X7_frame_n6 (wI M2 20 30 0)
def vc_X7_frame_n7 (M2 : Mem) : Prop := vc_X7_frame_n6 (wI M2 20 30 0)
def sp_X7_frame_n8 (M1 : Mem) : Mem := sp_X7_frame_n7 (wI M1 20 29 0)
def vc_X7_frame_n8 (M1 : Mem) : Prop := vc_X7_frame_n7 (wI M1 20 29 0)
def sp_X7_frame (M : Mem) : Mem := sp_X7_frame_n8 (wI M 20 28 0)
def vc_X7_frame (M : Mem) : Prop := vc_X7_frame_n8 (wI M 20 28 0)
def sp_X7_coin_n1 (M1 : Mem) : Int32 × Mem := (1, M1)
def sp_X7_coin (M : Mem) : Int32 × Mem := if (gI M 20 2) = 9 then (0, M) else (sp_X7_coin_n1 (wI M 20 2 ((gI M 20 2) + 1)))
def sp_X7_start_B14 (M : Mem) : Int32 × Mem := (0, M)
def sp_X7_start_n1 (M10 : Mem) : Int32 × Mem := (1, M10)
def sp_X7_start_n2 (M9 : Mem) : Int32 × Mem := sp_X7_start_n1 (sp_X7_place M9)
def vc_X7_start_n2 (M9 : Mem) : Prop := vc_X7_place M9
def sp_X7_start_n3 (M8 : Mem) : Int32 × Mem := sp_X7_start_n2 (sp_X7_fill M8)
def vc_X7_start_n3 (M8 : Mem) : Prop := vc_X7_fill M8 ∧ (vc_X7_start_n2 (sp_X7_fill M8))
def sp_X7_start_n4 (M7 : Mem) : Int32 × Mem := sp_X7_start_n3 (wI M7 20 14 1)
def vc_X7_start_n4 (M7 : Mem) : Prop := vc_X7_start_n3 (wI M7 20 14 1)
def sp_X7_start_n5 (M6 : Mem) : Int32 × Mem := sp_X7_start_n4 (wI M6 20 11 0)
def vc_X7_start_n5 (M6 : Mem) : Prop := vc_X7_start_n4 (wI M6 20 11 0)
def sp_X7_start_n6 (M5 : Mem) : Int32 × Mem := sp_X7_start_n5 (wI M5 20 6 0)
def vc_X7_start_n6 (M5 : Mem) : Prop := vc_X7_start_n5 (wI M5 20 6 0)
def sp_X7_start_n7 (M4 : Mem) : Int32 × Mem := sp_X7_start_n6 (wI M4 20 4 0)
def vc_X7_start_n7 (M4 : Mem) : Prop := vc_X7_start_n6 (wI M4 20 4 0)
def sp_X7_start_n8 (M3 : Mem) : Int32 × Mem := sp_X7_start_n7 (wI M3 20 7 3)
def vc_X7_start_n8 (M3 : Mem) : Prop := vc_X7_start_n7 (wI M3 20 7 3)
def sp_X7_start_n9 (M2 : Mem) : Int32 × Mem := sp_X7_start_n8 (wI M2 20 8 1)
def vc_X7_start_n9 (M2 : Mem) : Prop := vc_X7_start_n8 (wI M2 20 8 1)
def sp_X7_start_n10 (M1 : Mem) : Int32 × Mem := sp_X7_start_n9 (wI M1 20 3 1)
def vc_X7_start_n10 (M1 : Mem) : Prop := vc_X7_start_n9 (wI M1 20 3 1)
def sp_X7_start (M : Mem) : Int32 × Mem := if (gI M 20 2) = 0 then (sp_X7_start_B14 M) else (if (gI M 20 3) = 0 then (sp_X7_start_n10 (wI M 20 2 ((gI M 20 2) - 1))) else (sp_X7_start_B14 M))
def vc_X7_start (M : Mem) : Prop := if (gI M 20 2) = 0 then True else (if (gI M 20 3) = 0 then (vc_X7_start_n10 (wI M 20 2 ((gI M 20 2) - 1))) else True)
def sp_X7_stick_B10 (M : Mem) : Int32 × Mem := (0, M)
def sp_X7_stick_n1 (M1 : Mem) : Int32 × Mem := (1, M1)
def sp_X7_stick (M : Mem) (a1 : Int32) : Int32 × Mem := if a1 < (-1) then (sp_X7_stick_B10 M) else (if a1 ≤ 3 then (sp_X7_stick_n1 (wI M 20 15 a1)) else (sp_X7_stick_B10 M))
def sp_X7_kick_n1 (M1 : Mem) : Mem := M1
def sp_X7_kick (M : Mem) : Mem := sp_X7_kick_n1 (wI M 20 12 0)
def sp_X7_frames_n1 (K : Int32 → Int32 → Mem → Int32 × Mem) (a1 : Int32) (M3 : Mem) (x4 : Int32) : Int32 × Mem := K a1 x4 M3
def vc_X7_frames_n1 (KV : Int32 → Int32 → Mem → Prop) (a1 : Int32) (M3 : Mem) (x4 : Int32) : Prop := KV a1 x4 M3
def sp_X7_frames_n2 (K : Int32 → Int32 → Mem → Int32 × Mem) (a1 : Int32) (x1 : Int32) (M3 : Mem) : Int32 × Mem := sp_X7_frames_n1 K a1 M3 (x1 + 1)
def vc_X7_frames_n2 (KV : Int32 → Int32 → Mem → Prop) (a1 : Int32) (x1 : Int32) (M3 : Mem) : Prop := vc_X7_frames_n1 KV a1 M3 (x1 + 1)
def sp_X7_frames_B15 : Nat → Int32 → Int32 → Mem → Int32 × Mem
  | 0, a1, x1, M2 => (0, M2)
  | n + 1, a1, x1, M2 => if a1 ≤ x1 then (a1, M2) else (sp_X7_frames_n2 (sp_X7_frames_B15 n) a1 x1 (sp_X7_frame M2))
def vc_X7_frames_B15 : Nat → Int32 → Int32 → Mem → Prop
  | 0, _, _, _ => False
  | n + 1, a1, x1, M2 => if a1 ≤ x1 then True else (vc_X7_frame M2 ∧ (vc_X7_frames_n2 (vc_X7_frames_B15 n) a1 x1 (sp_X7_frame M2)))
def sp_X7_frames_B11 (M : Mem) : Int32 × Mem := ((-1), M)
def sp_X7_frames (M : Mem) (a1 : Int32) : Int32 × Mem := if a1 < 1 then (sp_X7_frames_B11 M) else (if a1 ≤ 60 then (sp_X7_frames_B15 62 a1 0 M) else (sp_X7_frames_B11 M))
def vc_X7_frames (M : Mem) (a1 : Int32) : Prop := if a1 < 1 then True else (if a1 ≤ 60 then vc_X7_frames_B15 62 a1 0 M else True)
def sp_X7_look_B164 (x3 : Int32) : Int32 := x3
def sp_X7_look_B123 (x2 : Int32) : Int32 := x2
def sp_X7_look_B86 (x1 : Int32) : Int32 := x1
def sp_X7_look (M : Mem) (a1 : Int32) : Int32 := if 6 ≤ a1 then (if 9 ≤ a1 then (if a1 = 9 then (sp_X7_look_B164 (gI M 20 11)) else (if a1 = 10 then (sp_X7_look_B164 (gI M 20 12)) else (if a1 = 11 then (sp_X7_look_B164 (gI M 20 13)) else (sp_X7_look_B164 (-1))))) else (if a1 = 6 then (sp_X7_look_B123 (sp_X7_left M)) else (if a1 = 7 then (sp_X7_look_B123 (gI M 20 9)) else (sp_X7_look_B123 (gI M 20 10))))) else (if a1 = 0 then (if (gI M 20 3) = 0 then (sp_X7_look_B86 0) else (sp_X7_look_B86 1)) else (if a1 = 1 then (sp_X7_look_B86 (gI M 20 4)) else (if a1 = 2 then (sp_X7_look_B86 (gI M 20 5)) else (if a1 = 3 then (sp_X7_look_B86 (gI M 20 7)) else (if a1 = 4 then (sp_X7_look_B86 (gI M 20 8)) else (if a1 = 5 then (sp_X7_look_B86 (gI M 20 2)) else (sp_X7_look_B86 (-1))))))))
def vc_X7_look (M : Mem) (a1 : Int32) : Prop := if 6 ≤ a1 then (if 9 ≤ a1 then True else (if a1 = 6 then vc_X7_left M else True)) else True
def sp_X7_actor_B109 (x2 : Int32) : Int32 := x2
def sp_X7_actor_B58 (x1 : Int32) : Int32 := x1
def sp_X7_actor_B18  : Int32 := (-1)
def sp_X7_actor (M : Mem) (a1 : Int32) (a2 : Int32) : Int32 := if a1 < 0 then sp_X7_actor_B18 else (if 4 < a1 then sp_X7_actor_B18 else (if a2 < 0 then sp_X7_actor_B18 else (if a2 ≤ 5 then (if 3 ≤ a2 then (if a2 = 3 then (if (gI M 27 a1.toNatClampNeg) = 0 then (sp_X7_actor_B109 0) else (sp_X7_actor_B109 1)) else (if a2 = 4 then (sp_X7_actor_B109 (gI M 28 a1.toNatClampNeg)) else (if (gI M 29 a1.toNatClampNeg) = 0 then (sp_X7_actor_B109 0) else (sp_X7_actor_B109 1)))) else (if a2 = 0 then (sp_X7_actor_B58 (gI M 23 a1.toNatClampNeg)) else (if a2 = 1 then (sp_X7_actor_B58 (gI M 24 a1.toNatClampNeg)) else (sp_X7_actor_B58 (gI M 25 a1.toNatClampNeg))))) else sp_X7_actor_B18)))
def vc_X7_actor (M : Mem) (a1 : Int32) (a2 : Int32) : Prop := if a1 < 0 then True else (if 4 < a1 then True else (if a2 < 0 then True else (if a2 ≤ 5 then (if 3 ≤ a2 then (if a2 = 3 then vp_in a1 5 else (if a2 = 4 then vp_in a1 5 else vp_in a1 5)) else (if a2 = 0 then vp_in a1 5 else (if a2 = 1 then vp_in a1 5 else vp_in a1 5))) else True)))
def sp_X7_progress_B19 (f1 : UInt32) : UInt32 := f1
def sp_X7_progress_B9  : UInt32 := sp_X7_progress_B19 FP.fconst0
def sp_X7_progress (M : Mem) (a1 : Int32) : UInt32 := if a1 < 0 then sp_X7_progress_B9 else (if a1 ≤ 4 then (sp_X7_progress_B19 (gF M 26 a1.toNatClampNeg)) else sp_X7_progress_B9)
def vc_X7_progress (M : Mem) (a1 : Int32) : Prop := if a1 < 0 then True else (if a1 ≤ 4 then vp_in a1 5 else True)
def sp_X7_cell_B35 (x1 : Int32) : Int32 := x1
def sp_X7_cell_B20  : Int32 := sp_X7_cell_B35 (-1)
def sp_X7_cell (M : Mem) (a1 : Int32) (a2 : Int32) : Int32 := if a1 < 0 then sp_X7_cell_B20 else (if 12 < a1 then sp_X7_cell_B20 else (if a2 < 0 then sp_X7_cell_B20 else (if a2 ≤ 8 then (sp_X7_cell_B35 (gI M 22 (((13 * a2) + a1).toNatClampNeg))) else sp_X7_cell_B20)))
def vc_X7_cell (M : Mem) (a1 : Int32) (a2 : Int32) : Prop := if a1 < 0 then True else (if 12 < a1 then True else (if a2 < 0 then True else (if a2 ≤ 8 then (vp_in ((13 * a2) + a1) 117) else True)))
def sp_X7_sprite_B274 (x13 : Int32) : Int32 := x13
def sp_X7_sprite_B273  : Int32 := sp_X7_sprite_B274 3
def sp_X7_sprite_B269  : Int32 := sp_X7_sprite_B274 0
def sp_X7_sprite_B248 (M : Mem) (x8 : Int32) (x12 : Int32) : Int32 := if x8 = 0 then (if x12 = 0 then sp_X7_sprite_B273 else (if ((gI M 20 13) &&& 4) = 0 then sp_X7_sprite_B269 else sp_X7_sprite_B273)) else sp_X7_sprite_B269
def sp_X7_sprite_B247 (M : Mem) (x8 : Int32) : Int32 := sp_X7_sprite_B248 M x8 0
def sp_X7_sprite_B240 (M : Mem) (x4 : Int32) (x8 : Int32) (x11 : Int32) : Int32 := if x4 = x11 then (sp_X7_sprite_B248 M x8 1) else (sp_X7_sprite_B247 M x8)
def sp_X7_sprite_B212 (M : Mem) (x8 : Int32) : Int32 := sp_X7_sprite_B248 M x8 0
def sp_X7_sprite_B205 (M : Mem) (x5 : Int32) (x8 : Int32) (x10 : Int32) : Int32 := if x5 = x10 then (sp_X7_sprite_B248 M x8 1) else (sp_X7_sprite_B212 M x8)
def sp_X7_sprite_n1 (M : Mem) (x4 : Int32) (x5 : Int32) (x6 : Int32) (x8 : Int32) (x9 : Int32) : Int32 := if (x9 - x9 / 2 * 2) = 0 then (if x6 = 0 then (if x9 = 0 then (sp_X7_sprite_B205 M x5 x8 0) else (sp_X7_sprite_B205 M x5 x8 3)) else (sp_X7_sprite_B212 M x8)) else (if x5 ≤ 0 then (sp_X7_sprite_B247 M x8) else (if 3 ≤ x5 then (sp_X7_sprite_B247 M x8) else (if x9 = 1 then (sp_X7_sprite_B240 M x4 x8 0) else (sp_X7_sprite_B240 M x4 x8 3))))
def sp_X7_sprite_B171 (M : Mem) (x4 : Int32) (x5 : Int32) (x6 : Int32) (x8 : Int32) : Int32 := sp_X7_sprite_n1 M x4 x5 x6 x8 (gI M 25 0)
def sp_X7_sprite_B170 (M : Mem) (x4 : Int32) (x5 : Int32) (x6 : Int32) : Int32 := sp_X7_sprite_B171 M x4 x5 x6 0
def sp_X7_sprite_B166 (M : Mem) (x4 : Int32) (x5 : Int32) (x6 : Int32) : Int32 := sp_X7_sprite_B171 M x4 x5 x6 1
def sp_X7_sprite_B149 (x7 : Int32) : Int32 := x7
def sp_X7_sprite_B132 (M : Mem) (a1 : Int32) : Int32 := if (gI M 27 a1.toNatClampNeg) = 0 then (sp_X7_sprite_B149 (3 + a1)) else (sp_X7_sprite_B149 8)
def vc_X7_sprite_B132 (M : Mem) (a1 : Int32) : Prop := vp_in a1 5
def sp_X7_sprite_B112 (M : Mem) (a1 : Int32) (x4 : Int32) (x5 : Int32) (x6 : Int32) : Int32 := if a1 ≤ 0 then (if x6 = 0 then (sp_X7_sprite_B170 M x4 x5 x6) else (if x5 = 0 then (sp_X7_sprite_B166 M x4 x5 x6) else (if x5 = 3 then (sp_X7_sprite_B166 M x4 x5 x6) else (sp_X7_sprite_B170 M x4 x5 x6)))) else (if x6 = 0 then (sp_X7_sprite_B132 M a1) else (if x5 = 0 then (sp_X7_sprite_B149 0) else (sp_X7_sprite_B132 M a1)))
def vc_X7_sprite_B112 (M : Mem) (a1 : Int32) (x4 : Int32) (x5 : Int32) (x6 : Int32) : Prop := if a1 ≤ 0 then True else (if x6 = 0 then vc_X7_sprite_B132 M a1 else (if x5 = 0 then True else vc_X7_sprite_B132 M a1))
def sp_X7_sprite_B107 (M : Mem) (a1 : Int32) (x4 : Int32) (x5 : Int32) : Int32 := sp_X7_sprite_B112 M a1 x4 x5 1
def vc_X7_sprite_B107 (M : Mem) (a1 : Int32) (x4 : Int32) (x5 : Int32) : Prop := vc_X7_sprite_B112 M a1 x4 x5 1
def sp_X7_sprite_B94  : Int32 := 0
def sp_X7_sprite_n2 (M : Mem) (a1 : Int32) (x4 : Int32) (x5 : Int32) : Int32 := if 3 < x4 then sp_X7_sprite_B94 else (if x5 ≤ 3 then (if x4 = 0 then (sp_X7_sprite_B107 M a1 x4 x5) else (if x4 = 3 then (sp_X7_sprite_B107 M a1 x4 x5) else (sp_X7_sprite_B112 M a1 x4 x5 0))) else sp_X7_sprite_B94)
def vc_X7_sprite_n2 (M : Mem) (a1 : Int32) (x4 : Int32) (x5 : Int32) : Prop := if 3 < x4 then True else (if x5 ≤ 3 then (if x4 = 0 then vc_X7_sprite_B107 M a1 x4 x5 else (if x4 = 3 then vc_X7_sprite_B107 M a1 x4 x5 else vc_X7_sprite_B112 M a1 x4 x5 0)) else True)
def sp_X7_sprite_n3 (M : Mem) (a1 : Int32) (a3 : Int32) (x3 : Int32) (x4 : Int32) : Int32 := sp_X7_sprite_n2 M a1 x4 (((a3 - x3) + 72) - ((a3 - x3) + 72) / 36 * 36)
def vc_X7_sprite_n3 (M : Mem) (a1 : Int32) (a3 : Int32) (x3 : Int32) (x4 : Int32) : Prop := vc_X7_sprite_n2 M a1 x4 (((a3 - x3) + 72) - ((a3 - x3) + 72) / 36 * 36)
def sp_X7_sprite_n4 (M : Mem) (a1 : Int32) (a2 : Int32) (a3 : Int32) (x2 : Int32) (x3 : Int32) : Int32 := sp_X7_sprite_n3 M a1 a3 x3 (((a2 - x2) + 104) - ((a2 - x2) + 104) / 52 * 52)
def vc_X7_sprite_n4 (M : Mem) (a1 : Int32) (a2 : Int32) (a3 : Int32) (x2 : Int32) (x3 : Int32) : Prop := vc_X7_sprite_n3 M a1 a3 x3 (((a2 - x2) + 104) - ((a2 - x2) + 104) / 52 * 52)
def sp_X7_sprite_n5 (M : Mem) (a1 : Int32) (a2 : Int32) (a3 : Int32) (x1 : Int32) (x2 : Int32) : Int32 := sp_X7_sprite_n4 M a1 a2 a3 x2 ((4 * (gI M 24 a1.toNatClampNeg)) + (x1 * (sp_X7_down (gI M 25 a1.toNatClampNeg))))
def vc_X7_sprite_n5 (M : Mem) (a1 : Int32) (a2 : Int32) (a3 : Int32) (x1 : Int32) (x2 : Int32) : Prop := vp_in a1 5 ∧ (vp_in a1 5 ∧ (vc_X7_sprite_n4 M a1 a2 a3 x2 ((4 * (gI M 24 a1.toNatClampNeg)) + (x1 * (sp_X7_down (gI M 25 a1.toNatClampNeg))))))
def sp_X7_sprite_n6 (M : Mem) (a1 : Int32) (a2 : Int32) (a3 : Int32) (x1 : Int32) : Int32 := sp_X7_sprite_n5 M a1 a2 a3 x1 ((4 * (gI M 23 a1.toNatClampNeg)) + (x1 * (sp_X7_across (gI M 25 a1.toNatClampNeg))))
def vc_X7_sprite_n6 (M : Mem) (a1 : Int32) (a2 : Int32) (a3 : Int32) (x1 : Int32) : Prop := vp_in a1 5 ∧ (vp_in a1 5 ∧ (vc_X7_sprite_n5 M a1 a2 a3 x1 ((4 * (gI M 23 a1.toNatClampNeg)) + (x1 * (sp_X7_across (gI M 25 a1.toNatClampNeg))))))
def sp_X7_sprite (M : Mem) (a1 : Int32) (a2 : Int32) (a3 : Int32) : Int32 := sp_X7_sprite_n6 M a1 a2 a3 (FP.f2i (FP.fmul (gF M 26 a1.toNatClampNeg) 1082130432))
def vc_X7_sprite (M : Mem) (a1 : Int32) (a2 : Int32) (a3 : Int32) : Prop := vp_in a1 5 ∧ ((vf_n32 (FP.fmul (gF M 26 a1.toNatClampNeg) 1082130432)) ∧ (vc_X7_sprite_n6 M a1 a2 a3 (FP.f2i (FP.fmul (gF M 26 a1.toNatClampNeg) 1082130432))))
def sp_X7_point_B175 (x8 : Int32) : Int32 := x8
def sp_X7_point_B174  : Int32 := sp_X7_point_B175 0
def sp_X7_point_B158 (x7 : Int32) : Int32 := x7
def sp_X7_point_B157  : Int32 := sp_X7_point_B158 0
def sp_X7_point_B115 (x6 : Int32) : Int32 := x6
def sp_X7_point_B114  : Int32 := sp_X7_point_B115 0
def sp_X7_point_n1 (M : Mem) (x3 : Int32) (x4 : Int32) (x5 : Int32) : Int32 := if x3 = 1 then 1 else (if x3 = 2 then (if x4 = 1 then (if x5 = 1 then (sp_X7_point_B115 2) else sp_X7_point_B114) else sp_X7_point_B114) else (if x3 = 3 then (if x4 ≤ 0 then sp_X7_point_B157 else (if 3 ≤ x4 then sp_X7_point_B157 else (if x5 ≤ 0 then sp_X7_point_B157 else (if 3 ≤ x5 then sp_X7_point_B157 else (if ((gI M 20 13) &&& 8) = 0 then (sp_X7_point_B158 2) else sp_X7_point_B157))))) else (if x3 = 4 then (if x5 = 0 then (sp_X7_point_B175 9) else sp_X7_point_B174) else sp_X7_point_B174)))
def sp_X7_point_n2 (M : Mem) (a2 : Int32) (x3 : Int32) (x4 : Int32) : Int32 := sp_X7_point_n1 M x3 x4 (a2 - a2 / 4 * 4)
def sp_X7_point_n3 (M : Mem) (a1 : Int32) (a2 : Int32) (x3 : Int32) : Int32 := sp_X7_point_n2 M a2 x3 (a1 - a1 / 4 * 4)
def sp_X7_point_B60 (M : Mem) (a1 : Int32) (a2 : Int32) : Int32 := sp_X7_point_n3 M a1 a2 (gI M 22 (((13 * (a2 / 4)) + (a1 / 4)).toNatClampNeg))
def vc_X7_point_B60 (M : Mem) (a1 : Int32) (a2 : Int32) : Prop := (vp_in ((13 * (a2 / 4)) + (a1 / 4)) 117)
def sp_X7_point_n4 (K : Mem → Int32 → Int32 → Int32 → Int32) (M : Mem) (a1 : Int32) (a2 : Int32) (x2 : Int32) : Int32 := K M a1 a2 x2
def vc_X7_point_n4 (KV : Mem → Int32 → Int32 → Int32 → Prop) (M : Mem) (a1 : Int32) (a2 : Int32) (x2 : Int32) : Prop := KV M a1 a2 x2
def sp_X7_point_B24 : Nat → Mem → Int32 → Int32 → Int32 → Int32
  | 0, M, a1, a2, x1 => 0
  | n + 1, M, a1, a2, x1 => if 5 ≤ x1 then (sp_X7_point_B60 M a1 a2) else (if (gI M 20 3) = 0 then (sp_X7_point_B60 M a1 a2) else (if (sp_X7_sprite M x1 a1 a2) ≤ 0 then (sp_X7_point_n4 (sp_X7_point_B24 n) M a1 a2 (x1 + 1)) else (sp_X7_sprite M x1 a1 a2)))
def vc_X7_point_B24 : Nat → Mem → Int32 → Int32 → Int32 → Prop
  | 0, _, _, _, _ => False
  | n + 1, M, a1, a2, x1 => if 5 ≤ x1 then vc_X7_point_B60 M a1 a2 else (if (gI M 20 3) = 0 then vc_X7_point_B60 M a1 a2 else (vc_X7_sprite M x1 a1 a2 ∧ (if (sp_X7_sprite M x1 a1 a2) ≤ 0 then (vc_X7_point_n4 (vc_X7_point_B24 n) M a1 a2 (x1 + 1)) else vc_X7_sprite M x1 a1 a2)))
def sp_X7_point_B20  : Int32 := (-1)
def sp_X7_point (M : Mem) (a1 : Int32) (a2 : Int32) : Int32 := if a1 < 0 then sp_X7_point_B20 else (if 51 < a1 then sp_X7_point_B20 else (if a2 < 0 then sp_X7_point_B20 else (if a2 ≤ 35 then (sp_X7_point_B24 6 M a1 a2 0) else sp_X7_point_B20)))
def vc_X7_point (M : Mem) (a1 : Int32) (a2 : Int32) : Prop := if a1 < 0 then True else (if 51 < a1 then True else (if a2 < 0 then True else (if a2 ≤ 35 then vc_X7_point_B24 6 M a1 a2 0 else True)))
def sp_X7_volume_B19 (f1 : UInt32) : UInt32 := f1
def sp_X7_volume_B9  : UInt32 := sp_X7_volume_B19 FP.fconst0
def sp_X7_volume (M : Mem) (a1 : Int32) : UInt32 := if a1 < 0 then sp_X7_volume_B9 else (if a1 ≤ 2 then (sp_X7_volume_B19 (gF M 34 a1.toNatClampNeg)) else sp_X7_volume_B9)
def vc_X7_volume (M : Mem) (a1 : Int32) : Prop := if a1 < 0 then True else (if a1 ≤ 2 then vp_in a1 3 else True)
def sp_X7_sound_n1 (K : Mem → UInt32 → Int32 → UInt32) (M : Mem) (f4 : UInt32) (x5 : Int32) : UInt32 := K M f4 x5
def vc_X7_sound_n1 (KV : Mem → UInt32 → Int32 → Prop) (M : Mem) (f4 : UInt32) (x5 : Int32) : Prop := KV M f4 x5
def sp_X7_sound_n2 (K : Mem → UInt32 → Int32 → UInt32) (M : Mem) (x3 : Int32) (f4 : UInt32) : UInt32 := sp_X7_sound_n1 K M f4 (x3 + 1)
def vc_X7_sound_n2 (KV : Mem → UInt32 → Int32 → Prop) (M : Mem) (x3 : Int32) (f4 : UInt32) : Prop := vc_X7_sound_n1 KV M f4 (x3 + 1)
def sp_X7_sound_B4 : Nat → Mem → UInt32 → Int32 → UInt32
  | 0, M, f2, x3 => 0
  | n + 1, M, f2, x3 => if 3 ≤ x3 then f2 else (sp_X7_sound_n2 (sp_X7_sound_B4 n) M x3 (FP.fadd f2 (FP.fmul (FP.fsub (FP.i2f (((gI M 32 x3.toNatClampNeg) >>> (8 &&& 31)) &&& 15)) 1089470464) (gF M 34 x3.toNatClampNeg))))
def vc_X7_sound_B4 : Nat → Mem → UInt32 → Int32 → Prop
  | 0, _, _, _ => False
  | n + 1, M, f2, x3 => if 3 ≤ x3 then True else (vp_in x3 3 ∧ ((vf_n32 (FP.fsub (FP.i2f (((gI M 32 x3.toNatClampNeg) >>> (8 &&& 31)) &&& 15)) 1089470464)) ∧ (vp_in x3 3 ∧ ((vf_n32 (FP.fmul (FP.fsub (FP.i2f (((gI M 32 x3.toNatClampNeg) >>> (8 &&& 31)) &&& 15)) 1089470464) (gF M 34 x3.toNatClampNeg))) ∧ ((vf_n32 (FP.fadd f2 (FP.fmul (FP.fsub (FP.i2f (((gI M 32 x3.toNatClampNeg) >>> (8 &&& 31)) &&& 15)) 1089470464) (gF M 34 x3.toNatClampNeg)))) ∧ (vc_X7_sound_n2 (vc_X7_sound_B4 n) M x3 (FP.fadd f2 (FP.fmul (FP.fsub (FP.i2f (((gI M 32 x3.toNatClampNeg) >>> (8 &&& 31)) &&& 15)) 1089470464) (gF M 34 x3.toNatClampNeg)))))))))
def sp_X7_sound_n3 (M : Mem) (f1 : UInt32) : UInt32 := sp_X7_sound_B4 4 M f1 0
def vc_X7_sound_n3 (M : Mem) (f1 : UInt32) : Prop := vc_X7_sound_B4 4 M f1 0
def sp_X7_sound (M : Mem) : UInt32 := sp_X7_sound_n3 M FP.fconst0
def vc_X7_sound (M : Mem) : Prop := vc_X7_sound_n3 M FP.fconst0
