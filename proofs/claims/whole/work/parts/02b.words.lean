/-! the words that every method has: all of the table that last -/
def BG : List Cond := lw_tbl.filter goodWord
theorem BG_of {w : Cond} (h : w ∈ lw_tbl) (g : goodWord w = true) : w ∈ BG := List.mem_filter.mpr ⟨h, g⟩
theorem BG_tbl {w : Cond} (h : w ∈ BG) : w ∈ lw_tbl := (List.mem_filter.mp h).1
theorem BG_good {w : Cond} (h : w ∈ BG) : goodWord w = true := (List.mem_filter.mp h).2
theorem mt_0 {w : Cond} (h : w ∈ k2_sels lw_privs) : w ∈ lw_tbl := List.mem_append_left _ h
theorem mt_1 {w : Cond} (h : w ∈ tables_1_1) : w ∈ lw_tbl := List.mem_append_right _ (List.mem_append_left _ h)
theorem mt_2 {w : Cond} (h : w ∈ tables_1_2) : w ∈ lw_tbl := List.mem_append_right _ (List.mem_append_right _ (List.mem_append_left _ h))
theorem mt_3 {w : Cond} (h : w ∈ tables_1_3) : w ∈ lw_tbl := List.mem_append_right _ (List.mem_append_right _ (List.mem_append_right _ (List.mem_append_left _ h)))
theorem mt_4 {w : Cond} (h : w ∈ tables_1_4) : w ∈ lw_tbl := List.mem_append_right _ (List.mem_append_right _ (List.mem_append_right _ (List.mem_append_right _ h)))
theorem gd_in {a : List Cond} {w : Cond} (ha : ∀ w ∈ BG, w ∈ a) (h : w ∈ BG) : w ∈ a ∧ ((w.onTables && w.keeps) = true ∨ ∃ ty, w = .arrayClass ty) := ⟨ha w h, good_of_word (BG_good h)⟩
theorem gd_C {a : List Cond} {c2 : Cond} (ha : ∀ w ∈ BG, w ∈ a) (h2 : c2 ∈ BG) : GoodIn a (c2 :: BG) := fun w h => (List.mem_cons.mp h).elim (fun e => e ▸ gd_in ha h2) (gd_in ha)
theorem gd_V {a : List Cond} {own C : String} {idx : Nat} {y : MethodName} {c2 : Cond} (ha : ∀ w ∈ BG, w ∈ a) (h1 : Cond.methodLink own idx y ∈ BG) (h2 : Cond.instanceMethod y ∈ BG) (h3 : Cond.selects C y y ∈ BG) (h4 : Cond.initialized C ∈ BG) (h5 : c2 ∈ BG) : GoodIn a (wsV own idx C y (c2 :: BG)) := by
  intro w h
  unfold wsV at h
  rcases List.mem_append.mp h with h | h
  · simp only [List.mem_cons, List.not_mem_nil, or_false] at h
    rcases h with h | h | h | h <;> (rw [h]; exact gd_in ha (by assumption))
  · exact gd_C ha h5 w h
theorem gd_S {a : List Cond} {own : String} {idx : Nat} {y : MethodName} {c2 : Cond} (ha : ∀ w ∈ BG, w ∈ a) (h1 : Cond.methodLink own idx y ∈ BG) (h2 : Cond.static y ∈ BG) (h4 : Cond.initialized y.cls ∈ BG) (h5 : c2 ∈ BG) : GoodIn a (va_wsS own idx y (c2 :: BG)) := by
  intro w h
  unfold va_wsS at h
  rcases List.mem_append.mp h with h | h
  · simp only [List.mem_cons, List.not_mem_nil, or_false] at h
    rcases h with h | h | h <;> (rw [h]; exact gd_in ha (by assumption))
  · exact gd_C ha h5 w h
theorem mw_1_0 : (Jvm.Cond.initialized "MazeBoardLaw") ∈ BG := BG_of (mt_1 (List.mem_of_getElem? (i := 0) rfl)) rfl
theorem mw_1_1 : (Jvm.Cond.initialized "MazeBoard") ∈ BG := BG_of (mt_1 (List.mem_of_getElem? (i := 1) rfl)) rfl
theorem mw_1_2 : (Jvm.Cond.initialized "MazeBoard$Game") ∈ BG := BG_of (mt_1 (List.mem_of_getElem? (i := 2) rfl)) rfl
theorem mw_1_3 : (Jvm.Cond.initialized "MazeBoard$Maze") ∈ BG := BG_of (mt_1 (List.mem_of_getElem? (i := 3) rfl)) rfl
theorem mw_1_4 : (Jvm.Cond.initialized "MazeBoard$Actor") ∈ BG := BG_of (mt_1 (List.mem_of_getElem? (i := 4) rfl)) rfl
theorem mw_1_5 : (Jvm.Cond.initialized "MazeBoard$Speaker") ∈ BG := BG_of (mt_1 (List.mem_of_getElem? (i := 5) rfl)) rfl
theorem mw_1_6 : (Jvm.Cond.initialized "MazeBoard$Voice") ∈ BG := BG_of (mt_1 (List.mem_of_getElem? (i := 6) rfl)) rfl
theorem mw_1_7 : (Jvm.Cond.initialized "MazeBoardModel") ∈ BG := BG_of (mt_1 (List.mem_of_getElem? (i := 7) rfl)) rfl
theorem mw_1_8 : (Jvm.Cond.initialized "java/lang/Math") ∈ BG := BG_of (mt_1 (List.mem_of_getElem? (i := 8) rfl)) rfl
theorem mw_1_9 : (Jvm.Cond.initialized "MazeBoard$Picture") ∈ BG := BG_of (mt_1 (List.mem_of_getElem? (i := 9) rfl)) rfl
theorem mw_1_10 : (Jvm.Cond.classLink "MazeBoardLaw" (7 : Nat) "MazeBoard") ∈ BG := BG_of (mt_1 (List.mem_of_getElem? (i := 10) rfl)) rfl
theorem mw_1_11 : (Jvm.Cond.instantiable "MazeBoard" (6 : Nat)) ∈ BG := BG_of (mt_1 (List.mem_of_getElem? (i := 11) rfl)) rfl
theorem mw_1_12 : (Jvm.Cond.methodLink "MazeBoardLaw" (9 : Nat) ({ cls := "MazeBoard", name := "<init>", desc := "()V" } : Jvm.MethodName)) ∈ BG := BG_of (mt_1 (List.mem_of_getElem? (i := 12) rfl)) rfl
theorem mw_1_13 : (Jvm.Cond.instanceMethod ({ cls := "MazeBoard", name := "<init>", desc := "()V" } : Jvm.MethodName)) ∈ BG := BG_of (mt_1 (List.mem_of_getElem? (i := 13) rfl)) rfl
theorem mw_1_14 : (Jvm.Cond.code ({ cls := "MazeBoard", name := "<init>", desc := "()V" } : Jvm.MethodName) prog_1_method_1_code (1 : Nat) (Option.none : Option Jvm.ClassFile.FieldType)) ∈ BG := BG_of (mt_1 (List.mem_of_getElem? (i := 14) rfl)) rfl
theorem mw_1_15 : (Jvm.Cond.methodLink "MazeBoard" (1 : Nat) ({ cls := "java/lang/Object", name := "<init>", desc := "()V" } : Jvm.MethodName)) ∈ BG := BG_of (mt_1 (List.mem_of_getElem? (i := 15) rfl)) rfl
theorem mw_1_16 : (Jvm.Cond.instanceMethod ({ cls := "java/lang/Object", name := "<init>", desc := "()V" } : Jvm.MethodName)) ∈ BG := BG_of (mt_1 (List.mem_of_getElem? (i := 16) rfl)) rfl
theorem mw_1_17 : (Jvm.Cond.code ({ cls := "java/lang/Object", name := "<init>", desc := "()V" } : Jvm.MethodName) object_method_1_code (1 : Nat) (Option.none : Option Jvm.ClassFile.FieldType)) ∈ BG := BG_of (mt_1 (List.mem_of_getElem? (i := 17) rfl)) rfl
theorem mw_1_18 : (Jvm.Cond.classLink "MazeBoard" (7 : Nat) "MazeBoard$Game") ∈ BG := BG_of (mt_1 (List.mem_of_getElem? (i := 18) rfl)) rfl
theorem mw_1_19 : (Jvm.Cond.instantiable "MazeBoard$Game" (16 : Nat)) ∈ BG := BG_of (mt_1 (List.mem_of_getElem? (i := 19) rfl)) rfl
theorem mw_1_20 : (Jvm.Cond.methodLink "MazeBoard" (9 : Nat) ({ cls := "MazeBoard$Game", name := "<init>", desc := "()V" } : Jvm.MethodName)) ∈ BG := BG_of (mt_1 (List.mem_of_getElem? (i := 20) rfl)) rfl
theorem mw_1_21 : (Jvm.Cond.instanceMethod ({ cls := "MazeBoard$Game", name := "<init>", desc := "()V" } : Jvm.MethodName)) ∈ BG := BG_of (mt_1 (List.mem_of_getElem? (i := 21) rfl)) rfl
theorem mw_1_22 : (Jvm.Cond.code ({ cls := "MazeBoard$Game", name := "<init>", desc := "()V" } : Jvm.MethodName) prog_3_method_1_code (2 : Nat) (Option.none : Option Jvm.ClassFile.FieldType)) ∈ BG := BG_of (mt_1 (List.mem_of_getElem? (i := 22) rfl)) rfl
theorem mw_1_23 : (Jvm.Cond.methodLink "MazeBoard$Game" (3 : Nat) ({ cls := "java/lang/Object", name := "<init>", desc := "()V" } : Jvm.MethodName)) ∈ BG := BG_of (mt_1 (List.mem_of_getElem? (i := 23) rfl)) rfl
theorem mw_1_24 : (Jvm.Cond.classLink "MazeBoard$Game" (9 : Nat) "MazeBoard$Maze") ∈ BG := BG_of (mt_1 (List.mem_of_getElem? (i := 24) rfl)) rfl
theorem mw_1_25 : (Jvm.Cond.instantiable "MazeBoard$Maze" (2 : Nat)) ∈ BG := BG_of (mt_1 (List.mem_of_getElem? (i := 25) rfl)) rfl
theorem mw_1_26 : (Jvm.Cond.methodLink "MazeBoard$Game" (11 : Nat) ({ cls := "MazeBoard$Maze", name := "<init>", desc := "()V" } : Jvm.MethodName)) ∈ BG := BG_of (mt_1 (List.mem_of_getElem? (i := 26) rfl)) rfl
theorem mw_1_27 : (Jvm.Cond.instanceMethod ({ cls := "MazeBoard$Maze", name := "<init>", desc := "()V" } : Jvm.MethodName)) ∈ BG := BG_of (mt_1 (List.mem_of_getElem? (i := 27) rfl)) rfl
theorem mw_1_28 : (Jvm.Cond.code ({ cls := "MazeBoard$Maze", name := "<init>", desc := "()V" } : Jvm.MethodName) prog_4_method_1_code (1 : Nat) (Option.none : Option Jvm.ClassFile.FieldType)) ∈ BG := BG_of (mt_1 (List.mem_of_getElem? (i := 28) rfl)) rfl
theorem mw_1_29 : (Jvm.Cond.methodLink "MazeBoard$Maze" (3 : Nat) ({ cls := "java/lang/Object", name := "<init>", desc := "()V" } : Jvm.MethodName)) ∈ BG := BG_of (mt_1 (List.mem_of_getElem? (i := 29) rfl)) rfl
theorem mw_1_30 : (Jvm.Cond.fieldLink "MazeBoard$Maze" (9 : Nat) "MazeBoard$Maze" "cells" "[B") ∈ BG := BG_of (mt_1 (List.mem_of_getElem? (i := 30) rfl)) rfl
theorem mw_1_31 : (Jvm.Cond.fieldLink "MazeBoard$Maze" (15 : Nat) "MazeBoard$Maze" "left" "I") ∈ BG := BG_of (mt_1 (List.mem_of_getElem? (i := 31) rfl)) rfl
theorem mw_1_32 : (Jvm.Cond.fieldLink "MazeBoard$Game" (103 : Nat) "MazeBoard$Maze" "left" "I") ∈ BG := BG_of (mt_1 (List.mem_of_getElem? (i := 32) rfl)) rfl
theorem mw_1_33 : (Jvm.Cond.fieldLink "MazeBoard" (69 : Nat) "MazeBoard$Maze" "left" "I") ∈ BG := BG_of (mt_1 (List.mem_of_getElem? (i := 33) rfl)) rfl
theorem mw_1_34 : (Jvm.Cond.laysFinal "MazeBoard$Maze" "MazeBoard$Maze" "cells" "[B") ∈ BG := BG_of (mt_1 (List.mem_of_getElem? (i := 34) rfl)) rfl
theorem mw_1_36 : (Jvm.Cond.lays "MazeBoard$Maze" "MazeBoard$Maze" "left" "I") ∈ BG := BG_of (mt_1 (List.mem_of_getElem? (i := 36) rfl)) rfl
theorem mw_1_39 : (Jvm.Cond.arrayClass Jvm.ClassFile.FieldType.byte) ∈ BG := BG_of (mt_1 (List.mem_of_getElem? (i := 39) rfl)) rfl
theorem mw_1_40 : (Jvm.Cond.classLink "MazeBoard$Game" (18 : Nat) "MazeBoard$Actor") ∈ BG := BG_of (mt_1 (List.mem_of_getElem? (i := 40) rfl)) rfl
theorem mw_1_42 : (Jvm.Cond.instantiable "MazeBoard$Actor" (11 : Nat)) ∈ BG := BG_of (mt_1 (List.mem_of_getElem? (i := 42) rfl)) rfl
theorem mw_1_44 : (Jvm.Cond.instanceMethod ({ cls := "MazeBoard$Actor", name := "<init>", desc := "()V" } : Jvm.MethodName)) ∈ BG := BG_of (mt_1 (List.mem_of_getElem? (i := 44) rfl)) rfl
theorem mw_1_45 : (Jvm.Cond.code ({ cls := "MazeBoard$Actor", name := "<init>", desc := "()V" } : Jvm.MethodName) prog_2_method_1_code (1 : Nat) (Option.none : Option Jvm.ClassFile.FieldType)) ∈ BG := BG_of (mt_1 (List.mem_of_getElem? (i := 45) rfl)) rfl
theorem mw_1_46 : (Jvm.Cond.methodLink "MazeBoard$Actor" (1 : Nat) ({ cls := "java/lang/Object", name := "<init>", desc := "()V" } : Jvm.MethodName)) ∈ BG := BG_of (mt_1 (List.mem_of_getElem? (i := 46) rfl)) rfl
theorem mw_1_47 : (Jvm.Cond.fieldLink "MazeBoard$Actor" (7 : Nat) "MazeBoard$Actor" "column" "I") ∈ BG := BG_of (mt_1 (List.mem_of_getElem? (i := 47) rfl)) rfl
theorem mw_1_48 : (Jvm.Cond.fieldLink "MazeBoard$Maze" (22 : Nat) "MazeBoard$Actor" "column" "I") ∈ BG := BG_of (mt_1 (List.mem_of_getElem? (i := 48) rfl)) rfl
theorem mw_1_49 : (Jvm.Cond.fieldLink "MazeBoard$Picture" (32 : Nat) "MazeBoard$Actor" "column" "I") ∈ BG := BG_of (mt_1 (List.mem_of_getElem? (i := 49) rfl)) rfl
theorem mw_1_50 : (Jvm.Cond.fieldLink "MazeBoard" (87 : Nat) "MazeBoard$Actor" "column" "I") ∈ BG := BG_of (mt_1 (List.mem_of_getElem? (i := 50) rfl)) rfl
theorem mw_1_51 : (Jvm.Cond.fieldLink "MazeBoard$Game" (134 : Nat) "MazeBoard$Actor" "column" "I") ∈ BG := BG_of (mt_1 (List.mem_of_getElem? (i := 51) rfl)) rfl
theorem mw_1_52 : (Jvm.Cond.fieldLink "MazeBoard$Actor" (13 : Nat) "MazeBoard$Actor" "row" "I") ∈ BG := BG_of (mt_1 (List.mem_of_getElem? (i := 52) rfl)) rfl
theorem mw_1_53 : (Jvm.Cond.fieldLink "MazeBoard$Maze" (31 : Nat) "MazeBoard$Actor" "row" "I") ∈ BG := BG_of (mt_1 (List.mem_of_getElem? (i := 53) rfl)) rfl
theorem mw_1_54 : (Jvm.Cond.fieldLink "MazeBoard$Picture" (43 : Nat) "MazeBoard$Actor" "row" "I") ∈ BG := BG_of (mt_1 (List.mem_of_getElem? (i := 54) rfl)) rfl
theorem mw_1_55 : (Jvm.Cond.fieldLink "MazeBoard" (92 : Nat) "MazeBoard$Actor" "row" "I") ∈ BG := BG_of (mt_1 (List.mem_of_getElem? (i := 55) rfl)) rfl
theorem mw_1_56 : (Jvm.Cond.fieldLink "MazeBoard$Game" (137 : Nat) "MazeBoard$Actor" "row" "I") ∈ BG := BG_of (mt_1 (List.mem_of_getElem? (i := 56) rfl)) rfl
theorem mw_1_57 : (Jvm.Cond.fieldLink "MazeBoard$Actor" (16 : Nat) "MazeBoard$Actor" "direction" "I") ∈ BG := BG_of (mt_1 (List.mem_of_getElem? (i := 57) rfl)) rfl
theorem mw_1_58 : (Jvm.Cond.fieldLink "MazeBoard$Picture" (36 : Nat) "MazeBoard$Actor" "direction" "I") ∈ BG := BG_of (mt_1 (List.mem_of_getElem? (i := 58) rfl)) rfl
theorem mw_1_59 : (Jvm.Cond.fieldLink "MazeBoard" (95 : Nat) "MazeBoard$Actor" "direction" "I") ∈ BG := BG_of (mt_1 (List.mem_of_getElem? (i := 59) rfl)) rfl
theorem mw_1_60 : (Jvm.Cond.fieldLink "MazeBoard$Game" (116 : Nat) "MazeBoard$Actor" "direction" "I") ∈ BG := BG_of (mt_1 (List.mem_of_getElem? (i := 60) rfl)) rfl
theorem mw_1_61 : (Jvm.Cond.fieldLink "MazeBoard$Actor" (19 : Nat) "MazeBoard$Actor" "progress" "F") ∈ BG := BG_of (mt_1 (List.mem_of_getElem? (i := 61) rfl)) rfl
theorem mw_1_62 : (Jvm.Cond.fieldLink "MazeBoard$Picture" (27 : Nat) "MazeBoard$Actor" "progress" "F") ∈ BG := BG_of (mt_1 (List.mem_of_getElem? (i := 62) rfl)) rfl
theorem mw_1_63 : (Jvm.Cond.fieldLink "MazeBoard$Game" (109 : Nat) "MazeBoard$Actor" "progress" "F") ∈ BG := BG_of (mt_1 (List.mem_of_getElem? (i := 63) rfl)) rfl
theorem mw_1_64 : (Jvm.Cond.fieldLink "MazeBoard" (107 : Nat) "MazeBoard$Actor" "progress" "F") ∈ BG := BG_of (mt_1 (List.mem_of_getElem? (i := 64) rfl)) rfl
theorem mw_1_65 : (Jvm.Cond.fieldLink "MazeBoard$Actor" (23 : Nat) "MazeBoard$Actor" "frightened" "Z") ∈ BG := BG_of (mt_1 (List.mem_of_getElem? (i := 65) rfl)) rfl
theorem mw_1_66 : (Jvm.Cond.fieldLink "MazeBoard$Picture" (21 : Nat) "MazeBoard$Actor" "frightened" "Z") ∈ BG := BG_of (mt_1 (List.mem_of_getElem? (i := 66) rfl)) rfl
theorem mw_1_67 : (Jvm.Cond.fieldLink "MazeBoard$Game" (106 : Nat) "MazeBoard$Actor" "frightened" "Z") ∈ BG := BG_of (mt_1 (List.mem_of_getElem? (i := 67) rfl)) rfl
theorem mw_1_68 : (Jvm.Cond.fieldLink "MazeBoard" (98 : Nat) "MazeBoard$Actor" "frightened" "Z") ∈ BG := BG_of (mt_1 (List.mem_of_getElem? (i := 68) rfl)) rfl
theorem mw_1_69 : (Jvm.Cond.fieldLink "MazeBoard$Actor" (27 : Nat) "MazeBoard$Actor" "leaving" "Z") ∈ BG := BG_of (mt_1 (List.mem_of_getElem? (i := 69) rfl)) rfl
theorem mw_1_70 : (Jvm.Cond.fieldLink "MazeBoard$Maze" (40 : Nat) "MazeBoard$Actor" "leaving" "Z") ∈ BG := BG_of (mt_1 (List.mem_of_getElem? (i := 70) rfl)) rfl
theorem mw_1_71 : (Jvm.Cond.fieldLink "MazeBoard" (104 : Nat) "MazeBoard$Actor" "leaving" "Z") ∈ BG := BG_of (mt_1 (List.mem_of_getElem? (i := 71) rfl)) rfl
theorem mw_1_72 : (Jvm.Cond.fieldLink "MazeBoard$Game" (155 : Nat) "MazeBoard$Actor" "leaving" "Z") ∈ BG := BG_of (mt_1 (List.mem_of_getElem? (i := 72) rfl)) rfl
theorem mw_1_73 : (Jvm.Cond.fieldLink "MazeBoard$Actor" (30 : Nat) "MazeBoard$Actor" "resting" "I") ∈ BG := BG_of (mt_1 (List.mem_of_getElem? (i := 73) rfl)) rfl
theorem mw_1_74 : (Jvm.Cond.fieldLink "MazeBoard" (101 : Nat) "MazeBoard$Actor" "resting" "I") ∈ BG := BG_of (mt_1 (List.mem_of_getElem? (i := 74) rfl)) rfl
theorem mw_1_75 : (Jvm.Cond.fieldLink "MazeBoard$Game" (166 : Nat) "MazeBoard$Actor" "resting" "I") ∈ BG := BG_of (mt_1 (List.mem_of_getElem? (i := 75) rfl)) rfl
theorem mw_1_76 : (Jvm.Cond.fieldLink "MazeBoard$Actor" (33 : Nat) "MazeBoard$Actor" "columnBefore" "I") ∈ BG := BG_of (mt_1 (List.mem_of_getElem? (i := 76) rfl)) rfl
theorem mw_1_77 : (Jvm.Cond.fieldLink "MazeBoard$Actor" (36 : Nat) "MazeBoard$Actor" "rowBefore" "I") ∈ BG := BG_of (mt_1 (List.mem_of_getElem? (i := 77) rfl)) rfl
theorem mw_1_78 : (Jvm.Cond.fieldLink "MazeBoard$Actor" (52 : Nat) "MazeBoard$Actor" "aimColumn" "I") ∈ BG := BG_of (mt_1 (List.mem_of_getElem? (i := 78) rfl)) rfl
theorem mw_1_79 : (Jvm.Cond.fieldLink "MazeBoard$Game" (204 : Nat) "MazeBoard$Actor" "aimColumn" "I") ∈ BG := BG_of (mt_1 (List.mem_of_getElem? (i := 79) rfl)) rfl
theorem mw_1_80 : (Jvm.Cond.fieldLink "MazeBoard$Actor" (55 : Nat) "MazeBoard$Actor" "aimRow" "I") ∈ BG := BG_of (mt_1 (List.mem_of_getElem? (i := 80) rfl)) rfl
theorem mw_1_81 : (Jvm.Cond.fieldLink "MazeBoard$Game" (207 : Nat) "MazeBoard$Actor" "aimRow" "I") ∈ BG := BG_of (mt_1 (List.mem_of_getElem? (i := 81) rfl)) rfl
theorem mw_1_82 : (Jvm.Cond.lays "MazeBoard$Actor" "MazeBoard$Actor" "column" "I") ∈ BG := BG_of (mt_1 (List.mem_of_getElem? (i := 82) rfl)) rfl
theorem mw_1_84 : (Jvm.Cond.lays "MazeBoard$Actor" "MazeBoard$Actor" "row" "I") ∈ BG := BG_of (mt_1 (List.mem_of_getElem? (i := 84) rfl)) rfl
theorem mw_1_86 : (Jvm.Cond.lays "MazeBoard$Actor" "MazeBoard$Actor" "direction" "I") ∈ BG := BG_of (mt_1 (List.mem_of_getElem? (i := 86) rfl)) rfl
theorem mw_1_88 : (Jvm.Cond.lays "MazeBoard$Actor" "MazeBoard$Actor" "progress" "F") ∈ BG := BG_of (mt_1 (List.mem_of_getElem? (i := 88) rfl)) rfl
theorem mw_1_90 : (Jvm.Cond.lays "MazeBoard$Actor" "MazeBoard$Actor" "frightened" "Z") ∈ BG := BG_of (mt_1 (List.mem_of_getElem? (i := 90) rfl)) rfl
theorem mw_1_92 : (Jvm.Cond.lays "MazeBoard$Actor" "MazeBoard$Actor" "leaving" "Z") ∈ BG := BG_of (mt_1 (List.mem_of_getElem? (i := 92) rfl)) rfl
theorem mw_1_94 : (Jvm.Cond.lays "MazeBoard$Actor" "MazeBoard$Actor" "resting" "I") ∈ BG := BG_of (mt_1 (List.mem_of_getElem? (i := 94) rfl)) rfl
theorem mw_1_96 : (Jvm.Cond.lays "MazeBoard$Actor" "MazeBoard$Actor" "columnBefore" "I") ∈ BG := BG_of (mt_1 (List.mem_of_getElem? (i := 96) rfl)) rfl
theorem mw_1_98 : (Jvm.Cond.lays "MazeBoard$Actor" "MazeBoard$Actor" "rowBefore" "I") ∈ BG := BG_of (mt_1 (List.mem_of_getElem? (i := 98) rfl)) rfl
theorem mw_1_100 : (Jvm.Cond.lays "MazeBoard$Actor" "MazeBoard$Actor" "aimColumn" "I") ∈ BG := BG_of (mt_1 (List.mem_of_getElem? (i := 100) rfl)) rfl
theorem mw_1_102 : (Jvm.Cond.lays "MazeBoard$Actor" "MazeBoard$Actor" "aimRow" "I") ∈ BG := BG_of (mt_1 (List.mem_of_getElem? (i := 102) rfl)) rfl
theorem mw_1_105 : (Jvm.Cond.methodLink "MazeBoard$Game" (29 : Nat) ({ cls := "MazeBoard$Game", name := "clear", desc := "()V" } : Jvm.MethodName)) ∈ BG := BG_of (mt_1 (List.mem_of_getElem? (i := 105) rfl)) rfl
theorem mw_1_106 : (Jvm.Cond.instanceMethod ({ cls := "MazeBoard$Game", name := "clear", desc := "()V" } : Jvm.MethodName)) ∈ BG := BG_of (mt_1 (List.mem_of_getElem? (i := 106) rfl)) rfl
theorem mw_1_107 : (Jvm.Cond.selects "MazeBoard$Game" ({ cls := "MazeBoard$Game", name := "clear", desc := "()V" } : Jvm.MethodName) ({ cls := "MazeBoard$Game", name := "clear", desc := "()V" } : Jvm.MethodName)) ∈ BG := BG_of (mt_1 (List.mem_of_getElem? (i := 107) rfl)) rfl
theorem mw_1_108 : (Jvm.Cond.code ({ cls := "MazeBoard$Game", name := "clear", desc := "()V" } : Jvm.MethodName) prog_3_method_2_code (1 : Nat) (Option.none : Option Jvm.ClassFile.FieldType)) ∈ BG := BG_of (mt_1 (List.mem_of_getElem? (i := 108) rfl)) rfl
theorem mw_1_109 : (Jvm.Cond.methodLink "MazeBoard$Game" (43 : Nat) ({ cls := "MazeBoard$Game", name := "setUp", desc := "()V" } : Jvm.MethodName)) ∈ BG := BG_of (mt_1 (List.mem_of_getElem? (i := 109) rfl)) rfl
theorem mw_1_111 : (Jvm.Cond.instanceMethod ({ cls := "MazeBoard$Game", name := "setUp", desc := "()V" } : Jvm.MethodName)) ∈ BG := BG_of (mt_1 (List.mem_of_getElem? (i := 111) rfl)) rfl
theorem mw_1_112 : (Jvm.Cond.code ({ cls := "MazeBoard$Game", name := "setUp", desc := "()V" } : Jvm.MethodName) prog_3_method_4_code (1 : Nat) (Option.none : Option Jvm.ClassFile.FieldType)) ∈ BG := BG_of (mt_1 (List.mem_of_getElem? (i := 112) rfl)) rfl
theorem mw_1_113 : (Jvm.Cond.methodLink "MazeBoard$Game" (58 : Nat) ({ cls := "MazeBoard$Maze", name := "refill", desc := "()V" } : Jvm.MethodName)) ∈ BG := BG_of (mt_1 (List.mem_of_getElem? (i := 113) rfl)) rfl
theorem mw_1_114 : (Jvm.Cond.instanceMethod ({ cls := "MazeBoard$Maze", name := "refill", desc := "()V" } : Jvm.MethodName)) ∈ BG := BG_of (mt_1 (List.mem_of_getElem? (i := 114) rfl)) rfl
theorem mw_1_115 : (Jvm.Cond.selects "MazeBoard$Maze" ({ cls := "MazeBoard$Maze", name := "refill", desc := "()V" } : Jvm.MethodName) ({ cls := "MazeBoard$Maze", name := "refill", desc := "()V" } : Jvm.MethodName)) ∈ BG := BG_of (mt_1 (List.mem_of_getElem? (i := 115) rfl)) rfl
theorem mw_1_116 : (Jvm.Cond.code ({ cls := "MazeBoard$Maze", name := "refill", desc := "()V" } : Jvm.MethodName) prog_4_method_2_code (2 : Nat) (Option.none : Option Jvm.ClassFile.FieldType)) ∈ BG := BG_of (mt_1 (List.mem_of_getElem? (i := 116) rfl)) rfl
theorem mw_1_117 : (Jvm.Cond.fieldLink "MazeBoard$Maze" (19 : Nat) "MazeBoard$Maze" "PLAN" "[B") ∈ BG := BG_of (mt_1 (List.mem_of_getElem? (i := 117) rfl)) rfl
theorem mw_1_119 : (Jvm.Cond.methodLink "MazeBoard$Game" (61 : Nat) ({ cls := "MazeBoard$Game", name := "placeActors", desc := "()V" } : Jvm.MethodName)) ∈ BG := BG_of (mt_1 (List.mem_of_getElem? (i := 119) rfl)) rfl
theorem mw_1_121 : (Jvm.Cond.instanceMethod ({ cls := "MazeBoard$Game", name := "placeActors", desc := "()V" } : Jvm.MethodName)) ∈ BG := BG_of (mt_1 (List.mem_of_getElem? (i := 121) rfl)) rfl
theorem mw_1_122 : (Jvm.Cond.code ({ cls := "MazeBoard$Game", name := "placeActors", desc := "()V" } : Jvm.MethodName) prog_3_method_5_code (1 : Nat) (Option.none : Option Jvm.ClassFile.FieldType)) ∈ BG := BG_of (mt_1 (List.mem_of_getElem? (i := 122) rfl)) rfl
theorem mw_1_123 : (Jvm.Cond.methodLink "MazeBoard$Game" (64 : Nat) ({ cls := "MazeBoard$Actor", name := "place", desc := "(IIII)V" } : Jvm.MethodName)) ∈ BG := BG_of (mt_1 (List.mem_of_getElem? (i := 123) rfl)) rfl
theorem mw_1_124 : (Jvm.Cond.instanceMethod ({ cls := "MazeBoard$Actor", name := "place", desc := "(IIII)V" } : Jvm.MethodName)) ∈ BG := BG_of (mt_1 (List.mem_of_getElem? (i := 124) rfl)) rfl
theorem mw_1_125 : (Jvm.Cond.selects "MazeBoard$Actor" ({ cls := "MazeBoard$Actor", name := "place", desc := "(IIII)V" } : Jvm.MethodName) ({ cls := "MazeBoard$Actor", name := "place", desc := "(IIII)V" } : Jvm.MethodName)) ∈ BG := BG_of (mt_1 (List.mem_of_getElem? (i := 125) rfl)) rfl
theorem mw_1_126 : (Jvm.Cond.code ({ cls := "MazeBoard$Actor", name := "place", desc := "(IIII)V" } : Jvm.MethodName) prog_2_method_2_code (5 : Nat) (Option.none : Option Jvm.ClassFile.FieldType)) ∈ BG := BG_of (mt_1 (List.mem_of_getElem? (i := 126) rfl)) rfl
theorem mw_1_127 : (Jvm.Cond.fieldLink "MazeBoard$Game" (12 : Nat) "MazeBoard$Game" "maze" "LMazeBoard$Maze;") ∈ BG := BG_of (mt_1 (List.mem_of_getElem? (i := 127) rfl)) rfl
theorem mw_1_128 : (Jvm.Cond.fieldLink "MazeBoard" (65 : Nat) "MazeBoard$Game" "maze" "LMazeBoard$Maze;") ∈ BG := BG_of (mt_1 (List.mem_of_getElem? (i := 128) rfl)) rfl
theorem mw_1_129 : (Jvm.Cond.fieldLink "MazeBoard$Game" (20 : Nat) "MazeBoard$Game" "actors" "[LMazeBoard$Actor;") ∈ BG := BG_of (mt_1 (List.mem_of_getElem? (i := 129) rfl)) rfl
theorem mw_1_130 : (Jvm.Cond.fieldLink "MazeBoard" (83 : Nat) "MazeBoard$Game" "actors" "[LMazeBoard$Actor;") ∈ BG := BG_of (mt_1 (List.mem_of_getElem? (i := 130) rfl)) rfl
theorem mw_1_131 : (Jvm.Cond.fieldLink "MazeBoard$Game" (25 : Nat) "MazeBoard$Game" "player" "LMazeBoard$Actor;") ∈ BG := BG_of (mt_1 (List.mem_of_getElem? (i := 131) rfl)) rfl
theorem mw_1_132 : (Jvm.Cond.fieldLink "MazeBoard$Game" (32 : Nat) "MazeBoard$Game" "on" "Z") ∈ BG := BG_of (mt_1 (List.mem_of_getElem? (i := 132) rfl)) rfl
theorem mw_1_133 : (Jvm.Cond.fieldLink "MazeBoard" (30 : Nat) "MazeBoard$Game" "on" "Z") ∈ BG := BG_of (mt_1 (List.mem_of_getElem? (i := 133) rfl)) rfl
theorem mw_1_134 : (Jvm.Cond.fieldLink "MazeBoard$Speaker" (34 : Nat) "MazeBoard$Game" "on" "Z") ∈ BG := BG_of (mt_1 (List.mem_of_getElem? (i := 134) rfl)) rfl
theorem mw_1_135 : (Jvm.Cond.fieldLink "MazeBoard$Game" (46 : Nat) "MazeBoard$Game" "score" "I") ∈ BG := BG_of (mt_1 (List.mem_of_getElem? (i := 135) rfl)) rfl
theorem mw_1_136 : (Jvm.Cond.fieldLink "MazeBoard" (53 : Nat) "MazeBoard$Game" "score" "I") ∈ BG := BG_of (mt_1 (List.mem_of_getElem? (i := 136) rfl)) rfl
theorem mw_1_137 : (Jvm.Cond.fieldLink "MazeBoard" (56 : Nat) "MazeBoard$Game" "best" "I") ∈ BG := BG_of (mt_1 (List.mem_of_getElem? (i := 137) rfl)) rfl
theorem mw_1_138 : (Jvm.Cond.fieldLink "MazeBoard$Game" (149 : Nat) "MazeBoard$Game" "best" "I") ∈ BG := BG_of (mt_1 (List.mem_of_getElem? (i := 138) rfl)) rfl
theorem mw_1_139 : (Jvm.Cond.fieldLink "MazeBoard$Game" (36 : Nat) "MazeBoard$Game" "lives" "I") ∈ BG := BG_of (mt_1 (List.mem_of_getElem? (i := 139) rfl)) rfl
theorem mw_1_140 : (Jvm.Cond.fieldLink "MazeBoard" (59 : Nat) "MazeBoard$Game" "lives" "I") ∈ BG := BG_of (mt_1 (List.mem_of_getElem? (i := 140) rfl)) rfl
theorem mw_1_141 : (Jvm.Cond.fieldLink "MazeBoard$Game" (40 : Nat) "MazeBoard$Game" "level" "I") ∈ BG := BG_of (mt_1 (List.mem_of_getElem? (i := 141) rfl)) rfl
theorem mw_1_142 : (Jvm.Cond.fieldLink "MazeBoard" (62 : Nat) "MazeBoard$Game" "level" "I") ∈ BG := BG_of (mt_1 (List.mem_of_getElem? (i := 142) rfl)) rfl
theorem mw_1_143 : (Jvm.Cond.fieldLink "MazeBoard$Game" (49 : Nat) "MazeBoard$Game" "chain" "I") ∈ BG := BG_of (mt_1 (List.mem_of_getElem? (i := 143) rfl)) rfl
theorem mw_1_144 : (Jvm.Cond.fieldLink "MazeBoard" (80 : Nat) "MazeBoard$Game" "chain" "I") ∈ BG := BG_of (mt_1 (List.mem_of_getElem? (i := 144) rfl)) rfl
theorem mw_1_145 : (Jvm.Cond.fieldLink "MazeBoard$Game" (52 : Nat) "MazeBoard$Game" "rewarded" "Z") ∈ BG := BG_of (mt_1 (List.mem_of_getElem? (i := 145) rfl)) rfl
theorem mw_1_146 : (Jvm.Cond.fieldLink "MazeBoard$Game" (68 : Nat) "MazeBoard$Game" "fright" "I") ∈ BG := BG_of (mt_1 (List.mem_of_getElem? (i := 146) rfl)) rfl
theorem mw_1_147 : (Jvm.Cond.fieldLink "MazeBoard" (74 : Nat) "MazeBoard$Game" "fright" "I") ∈ BG := BG_of (mt_1 (List.mem_of_getElem? (i := 147) rfl)) rfl
theorem mw_1_148 : (Jvm.Cond.fieldLink "MazeBoard$Game" (71 : Nat) "MazeBoard$Game" "modeTime" "I") ∈ BG := BG_of (mt_1 (List.mem_of_getElem? (i := 148) rfl)) rfl
theorem mw_1_149 : (Jvm.Cond.fieldLink "MazeBoard" (77 : Nat) "MazeBoard$Game" "modeTime" "I") ∈ BG := BG_of (mt_1 (List.mem_of_getElem? (i := 149) rfl)) rfl
theorem mw_1_150 : (Jvm.Cond.fieldLink "MazeBoard$Game" (55 : Nat) "MazeBoard$Game" "generator" "I") ∈ BG := BG_of (mt_1 (List.mem_of_getElem? (i := 150) rfl)) rfl
theorem mw_1_151 : (Jvm.Cond.fieldLink "MazeBoard$Speaker" (24 : Nat) "MazeBoard$Game" "dotEaten" "Z") ∈ BG := BG_of (mt_1 (List.mem_of_getElem? (i := 151) rfl)) rfl
theorem mw_1_152 : (Jvm.Cond.fieldLink "MazeBoard$Game" (74 : Nat) "MazeBoard$Game" "dotEaten" "Z") ∈ BG := BG_of (mt_1 (List.mem_of_getElem? (i := 152) rfl)) rfl
theorem mw_1_153 : (Jvm.Cond.fieldLink "MazeBoard$Speaker" (42 : Nat) "MazeBoard$Game" "prizeEaten" "Z") ∈ BG := BG_of (mt_1 (List.mem_of_getElem? (i := 153) rfl)) rfl
theorem mw_1_154 : (Jvm.Cond.fieldLink "MazeBoard$Game" (77 : Nat) "MazeBoard$Game" "prizeEaten" "Z") ∈ BG := BG_of (mt_1 (List.mem_of_getElem? (i := 154) rfl)) rfl
theorem mw_1_155 : (Jvm.Cond.fieldLink "MazeBoard$Speaker" (46 : Nat) "MazeBoard$Game" "playerDied" "Z") ∈ BG := BG_of (mt_1 (List.mem_of_getElem? (i := 155) rfl)) rfl
theorem mw_1_156 : (Jvm.Cond.fieldLink "MazeBoard$Game" (80 : Nat) "MazeBoard$Game" "playerDied" "Z") ∈ BG := BG_of (mt_1 (List.mem_of_getElem? (i := 156) rfl)) rfl
theorem mw_1_157 : (Jvm.Cond.laysFinal "MazeBoard$Game" "MazeBoard$Game" "maze" "LMazeBoard$Maze;") ∈ BG := BG_of (mt_1 (List.mem_of_getElem? (i := 157) rfl)) rfl
theorem mw_1_159 : (Jvm.Cond.laysFinal "MazeBoard$Game" "MazeBoard$Game" "actors" "[LMazeBoard$Actor;") ∈ BG := BG_of (mt_1 (List.mem_of_getElem? (i := 159) rfl)) rfl
theorem mw_1_161 : (Jvm.Cond.laysFinal "MazeBoard$Game" "MazeBoard$Game" "player" "LMazeBoard$Actor;") ∈ BG := BG_of (mt_1 (List.mem_of_getElem? (i := 161) rfl)) rfl
theorem mw_1_163 : (Jvm.Cond.lays "MazeBoard$Game" "MazeBoard$Game" "on" "Z") ∈ BG := BG_of (mt_1 (List.mem_of_getElem? (i := 163) rfl)) rfl
theorem mw_1_165 : (Jvm.Cond.lays "MazeBoard$Game" "MazeBoard$Game" "score" "I") ∈ BG := BG_of (mt_1 (List.mem_of_getElem? (i := 165) rfl)) rfl
theorem mw_1_167 : (Jvm.Cond.lays "MazeBoard$Game" "MazeBoard$Game" "best" "I") ∈ BG := BG_of (mt_1 (List.mem_of_getElem? (i := 167) rfl)) rfl
theorem mw_1_169 : (Jvm.Cond.lays "MazeBoard$Game" "MazeBoard$Game" "lives" "I") ∈ BG := BG_of (mt_1 (List.mem_of_getElem? (i := 169) rfl)) rfl
theorem mw_1_171 : (Jvm.Cond.lays "MazeBoard$Game" "MazeBoard$Game" "level" "I") ∈ BG := BG_of (mt_1 (List.mem_of_getElem? (i := 171) rfl)) rfl
theorem mw_1_173 : (Jvm.Cond.lays "MazeBoard$Game" "MazeBoard$Game" "chain" "I") ∈ BG := BG_of (mt_1 (List.mem_of_getElem? (i := 173) rfl)) rfl
theorem mw_1_175 : (Jvm.Cond.lays "MazeBoard$Game" "MazeBoard$Game" "rewarded" "Z") ∈ BG := BG_of (mt_1 (List.mem_of_getElem? (i := 175) rfl)) rfl
theorem mw_1_177 : (Jvm.Cond.lays "MazeBoard$Game" "MazeBoard$Game" "fright" "I") ∈ BG := BG_of (mt_1 (List.mem_of_getElem? (i := 177) rfl)) rfl
theorem mw_1_179 : (Jvm.Cond.lays "MazeBoard$Game" "MazeBoard$Game" "modeTime" "I") ∈ BG := BG_of (mt_1 (List.mem_of_getElem? (i := 179) rfl)) rfl
theorem mw_1_181 : (Jvm.Cond.lays "MazeBoard$Game" "MazeBoard$Game" "generator" "I") ∈ BG := BG_of (mt_1 (List.mem_of_getElem? (i := 181) rfl)) rfl
theorem mw_1_183 : (Jvm.Cond.lays "MazeBoard$Game" "MazeBoard$Game" "dotEaten" "Z") ∈ BG := BG_of (mt_1 (List.mem_of_getElem? (i := 183) rfl)) rfl
theorem mw_1_185 : (Jvm.Cond.lays "MazeBoard$Game" "MazeBoard$Game" "prizeEaten" "Z") ∈ BG := BG_of (mt_1 (List.mem_of_getElem? (i := 185) rfl)) rfl
theorem mw_1_187 : (Jvm.Cond.lays "MazeBoard$Game" "MazeBoard$Game" "playerDied" "Z") ∈ BG := BG_of (mt_1 (List.mem_of_getElem? (i := 187) rfl)) rfl
theorem mw_1_190 : (Jvm.Cond.classLink "MazeBoard" (16 : Nat) "MazeBoard$Speaker") ∈ BG := BG_of (mt_1 (List.mem_of_getElem? (i := 190) rfl)) rfl
theorem mw_1_191 : (Jvm.Cond.instantiable "MazeBoard$Speaker" (1 : Nat)) ∈ BG := BG_of (mt_1 (List.mem_of_getElem? (i := 191) rfl)) rfl
theorem mw_1_192 : (Jvm.Cond.methodLink "MazeBoard" (18 : Nat) ({ cls := "MazeBoard$Speaker", name := "<init>", desc := "()V" } : Jvm.MethodName)) ∈ BG := BG_of (mt_1 (List.mem_of_getElem? (i := 192) rfl)) rfl
theorem mw_1_193 : (Jvm.Cond.instanceMethod ({ cls := "MazeBoard$Speaker", name := "<init>", desc := "()V" } : Jvm.MethodName)) ∈ BG := BG_of (mt_1 (List.mem_of_getElem? (i := 193) rfl)) rfl
theorem mw_1_194 : (Jvm.Cond.code ({ cls := "MazeBoard$Speaker", name := "<init>", desc := "()V" } : Jvm.MethodName) prog_6_method_1_code (2 : Nat) (Option.none : Option Jvm.ClassFile.FieldType)) ∈ BG := BG_of (mt_1 (List.mem_of_getElem? (i := 194) rfl)) rfl
theorem mw_1_195 : (Jvm.Cond.methodLink "MazeBoard$Speaker" (3 : Nat) ({ cls := "java/lang/Object", name := "<init>", desc := "()V" } : Jvm.MethodName)) ∈ BG := BG_of (mt_1 (List.mem_of_getElem? (i := 195) rfl)) rfl
theorem mw_1_196 : (Jvm.Cond.classLink "MazeBoard$Speaker" (9 : Nat) "MazeBoard$Voice") ∈ BG := BG_of (mt_1 (List.mem_of_getElem? (i := 196) rfl)) rfl
theorem mw_1_198 : (Jvm.Cond.instantiable "MazeBoard$Voice" (3 : Nat)) ∈ BG := BG_of (mt_1 (List.mem_of_getElem? (i := 198) rfl)) rfl
theorem mw_1_200 : (Jvm.Cond.instanceMethod ({ cls := "MazeBoard$Voice", name := "<init>", desc := "()V" } : Jvm.MethodName)) ∈ BG := BG_of (mt_1 (List.mem_of_getElem? (i := 200) rfl)) rfl
theorem mw_1_201 : (Jvm.Cond.code ({ cls := "MazeBoard$Voice", name := "<init>", desc := "()V" } : Jvm.MethodName) prog_7_method_1_code (1 : Nat) (Option.none : Option Jvm.ClassFile.FieldType)) ∈ BG := BG_of (mt_1 (List.mem_of_getElem? (i := 201) rfl)) rfl
theorem mw_1_202 : (Jvm.Cond.methodLink "MazeBoard$Voice" (1 : Nat) ({ cls := "java/lang/Object", name := "<init>", desc := "()V" } : Jvm.MethodName)) ∈ BG := BG_of (mt_1 (List.mem_of_getElem? (i := 202) rfl)) rfl
theorem mw_1_203 : (Jvm.Cond.fieldLink "MazeBoard$Voice" (7 : Nat) "MazeBoard$Voice" "accumulator" "S") ∈ BG := BG_of (mt_1 (List.mem_of_getElem? (i := 203) rfl)) rfl
theorem mw_1_204 : (Jvm.Cond.fieldLink "MazeBoard$Voice" (13 : Nat) "MazeBoard$Voice" "pitch" "I") ∈ BG := BG_of (mt_1 (List.mem_of_getElem? (i := 204) rfl)) rfl
theorem mw_1_205 : (Jvm.Cond.fieldLink "MazeBoard$Voice" (17 : Nat) "MazeBoard$Voice" "loudness" "F") ∈ BG := BG_of (mt_1 (List.mem_of_getElem? (i := 205) rfl)) rfl
theorem mw_1_206 : (Jvm.Cond.fieldLink "MazeBoard" (133 : Nat) "MazeBoard$Voice" "loudness" "F") ∈ BG := BG_of (mt_1 (List.mem_of_getElem? (i := 206) rfl)) rfl
theorem mw_1_207 : (Jvm.Cond.lays "MazeBoard$Voice" "MazeBoard$Voice" "accumulator" "S") ∈ BG := BG_of (mt_1 (List.mem_of_getElem? (i := 207) rfl)) rfl
theorem mw_1_209 : (Jvm.Cond.lays "MazeBoard$Voice" "MazeBoard$Voice" "pitch" "I") ∈ BG := BG_of (mt_1 (List.mem_of_getElem? (i := 209) rfl)) rfl
theorem mw_1_211 : (Jvm.Cond.lays "MazeBoard$Voice" "MazeBoard$Voice" "loudness" "F") ∈ BG := BG_of (mt_1 (List.mem_of_getElem? (i := 211) rfl)) rfl
theorem mw_1_214 : (Jvm.Cond.fieldLink "MazeBoard$Speaker" (11 : Nat) "MazeBoard$Speaker" "voices" "[LMazeBoard$Voice;") ∈ BG := BG_of (mt_1 (List.mem_of_getElem? (i := 214) rfl)) rfl
theorem mw_1_215 : (Jvm.Cond.fieldLink "MazeBoard" (129 : Nat) "MazeBoard$Speaker" "voices" "[LMazeBoard$Voice;") ∈ BG := BG_of (mt_1 (List.mem_of_getElem? (i := 215) rfl)) rfl
theorem mw_1_216 : (Jvm.Cond.laysFinal "MazeBoard$Speaker" "MazeBoard$Speaker" "voices" "[LMazeBoard$Voice;") ∈ BG := BG_of (mt_1 (List.mem_of_getElem? (i := 216) rfl)) rfl
theorem mw_1_219 : (Jvm.Cond.fieldLink "MazeBoard" (10 : Nat) "MazeBoard" "game" "LMazeBoard$Game;") ∈ BG := BG_of (mt_1 (List.mem_of_getElem? (i := 219) rfl)) rfl
theorem mw_1_220 : (Jvm.Cond.fieldLink "MazeBoard" (19 : Nat) "MazeBoard" "speaker" "LMazeBoard$Speaker;") ∈ BG := BG_of (mt_1 (List.mem_of_getElem? (i := 220) rfl)) rfl
theorem mw_1_221 : (Jvm.Cond.fieldLink "MazeBoard" (27 : Nat) "MazeBoard" "coins" "I") ∈ BG := BG_of (mt_1 (List.mem_of_getElem? (i := 221) rfl)) rfl
theorem mw_1_222 : (Jvm.Cond.fieldLink "MazeBoard" (23 : Nat) "MazeBoard" "stickDirection" "I") ∈ BG := BG_of (mt_1 (List.mem_of_getElem? (i := 222) rfl)) rfl
theorem mw_1_223 : (Jvm.Cond.fieldLink "MazeBoard" (37 : Nat) "MazeBoard" "watchdog" "I") ∈ BG := BG_of (mt_1 (List.mem_of_getElem? (i := 223) rfl)) rfl
theorem mw_1_224 : (Jvm.Cond.fieldLink "MazeBoard" (47 : Nat) "MazeBoard" "frameCount" "I") ∈ BG := BG_of (mt_1 (List.mem_of_getElem? (i := 224) rfl)) rfl
theorem mw_1_225 : (Jvm.Cond.laysFinal "MazeBoard" "MazeBoard" "game" "LMazeBoard$Game;") ∈ BG := BG_of (mt_1 (List.mem_of_getElem? (i := 225) rfl)) rfl
theorem mw_1_227 : (Jvm.Cond.laysFinal "MazeBoard" "MazeBoard" "speaker" "LMazeBoard$Speaker;") ∈ BG := BG_of (mt_1 (List.mem_of_getElem? (i := 227) rfl)) rfl
theorem mw_1_229 : (Jvm.Cond.lays "MazeBoard" "MazeBoard" "coins" "I") ∈ BG := BG_of (mt_1 (List.mem_of_getElem? (i := 229) rfl)) rfl
theorem mw_1_231 : (Jvm.Cond.lays "MazeBoard" "MazeBoard" "stickDirection" "I") ∈ BG := BG_of (mt_1 (List.mem_of_getElem? (i := 231) rfl)) rfl
theorem mw_1_233 : (Jvm.Cond.lays "MazeBoard" "MazeBoard" "watchdog" "I") ∈ BG := BG_of (mt_1 (List.mem_of_getElem? (i := 233) rfl)) rfl
theorem mw_1_235 : (Jvm.Cond.lays "MazeBoard" "MazeBoard" "frameCount" "I") ∈ BG := BG_of (mt_1 (List.mem_of_getElem? (i := 235) rfl)) rfl
theorem mw_1_238 : (Jvm.Cond.methodLink "MazeBoardLaw" (13 : Nat) ({ cls := "MazeBoard", name := "coin", desc := "()Z" } : Jvm.MethodName)) ∈ BG := BG_of (mt_1 (List.mem_of_getElem? (i := 238) rfl)) rfl
theorem mw_1_239 : (Jvm.Cond.instanceMethod ({ cls := "MazeBoard", name := "coin", desc := "()Z" } : Jvm.MethodName)) ∈ BG := BG_of (mt_1 (List.mem_of_getElem? (i := 239) rfl)) rfl
theorem mw_2_0 : (Jvm.Cond.selects "MazeBoard" ({ cls := "MazeBoard", name := "coin", desc := "()Z" } : Jvm.MethodName) ({ cls := "MazeBoard", name := "coin", desc := "()Z" } : Jvm.MethodName)) ∈ BG := BG_of (mt_2 (List.mem_of_getElem? (i := 0) rfl)) rfl
theorem mw_2_1 : (Jvm.Cond.code ({ cls := "MazeBoard", name := "coin", desc := "()Z" } : Jvm.MethodName) prog_1_method_2_code (1 : Nat) (Option.some Jvm.ClassFile.FieldType.boolean)) ∈ BG := BG_of (mt_2 (List.mem_of_getElem? (i := 1) rfl)) rfl
theorem mw_2_2 : (Jvm.Cond.methodLink "MazeBoardLaw" (18 : Nat) ({ cls := "MazeBoard", name := "start", desc := "()Z" } : Jvm.MethodName)) ∈ BG := BG_of (mt_2 (List.mem_of_getElem? (i := 2) rfl)) rfl
theorem mw_2_3 : (Jvm.Cond.instanceMethod ({ cls := "MazeBoard", name := "start", desc := "()Z" } : Jvm.MethodName)) ∈ BG := BG_of (mt_2 (List.mem_of_getElem? (i := 3) rfl)) rfl
theorem mw_2_4 : (Jvm.Cond.selects "MazeBoard" ({ cls := "MazeBoard", name := "start", desc := "()Z" } : Jvm.MethodName) ({ cls := "MazeBoard", name := "start", desc := "()Z" } : Jvm.MethodName)) ∈ BG := BG_of (mt_2 (List.mem_of_getElem? (i := 4) rfl)) rfl
theorem mw_2_5 : (Jvm.Cond.code ({ cls := "MazeBoard", name := "start", desc := "()Z" } : Jvm.MethodName) prog_1_method_3_code (1 : Nat) (Option.some Jvm.ClassFile.FieldType.boolean)) ∈ BG := BG_of (mt_2 (List.mem_of_getElem? (i := 5) rfl)) rfl
theorem mw_2_6 : (Jvm.Cond.methodLink "MazeBoard" (34 : Nat) ({ cls := "MazeBoard$Game", name := "begin", desc := "()V" } : Jvm.MethodName)) ∈ BG := BG_of (mt_2 (List.mem_of_getElem? (i := 6) rfl)) rfl
theorem mw_2_7 : (Jvm.Cond.instanceMethod ({ cls := "MazeBoard$Game", name := "begin", desc := "()V" } : Jvm.MethodName)) ∈ BG := BG_of (mt_2 (List.mem_of_getElem? (i := 7) rfl)) rfl
theorem mw_2_8 : (Jvm.Cond.selects "MazeBoard$Game" ({ cls := "MazeBoard$Game", name := "begin", desc := "()V" } : Jvm.MethodName) ({ cls := "MazeBoard$Game", name := "begin", desc := "()V" } : Jvm.MethodName)) ∈ BG := BG_of (mt_2 (List.mem_of_getElem? (i := 8) rfl)) rfl
theorem mw_2_9 : (Jvm.Cond.code ({ cls := "MazeBoard$Game", name := "begin", desc := "()V" } : Jvm.MethodName) prog_3_method_3_code (1 : Nat) (Option.none : Option Jvm.ClassFile.FieldType)) ∈ BG := BG_of (mt_2 (List.mem_of_getElem? (i := 9) rfl)) rfl
theorem mw_2_10 : (Jvm.Cond.methodLink "MazeBoardLaw" (22 : Nat) ({ cls := "MazeBoard", name := "stick", desc := "(I)Z" } : Jvm.MethodName)) ∈ BG := BG_of (mt_2 (List.mem_of_getElem? (i := 10) rfl)) rfl
theorem mw_2_11 : (Jvm.Cond.instanceMethod ({ cls := "MazeBoard", name := "stick", desc := "(I)Z" } : Jvm.MethodName)) ∈ BG := BG_of (mt_2 (List.mem_of_getElem? (i := 11) rfl)) rfl
theorem mw_2_12 : (Jvm.Cond.selects "MazeBoard" ({ cls := "MazeBoard", name := "stick", desc := "(I)Z" } : Jvm.MethodName) ({ cls := "MazeBoard", name := "stick", desc := "(I)Z" } : Jvm.MethodName)) ∈ BG := BG_of (mt_2 (List.mem_of_getElem? (i := 12) rfl)) rfl
theorem mw_2_13 : (Jvm.Cond.code ({ cls := "MazeBoard", name := "stick", desc := "(I)Z" } : Jvm.MethodName) prog_1_method_4_code (2 : Nat) (Option.some Jvm.ClassFile.FieldType.boolean)) ∈ BG := BG_of (mt_2 (List.mem_of_getElem? (i := 13) rfl)) rfl
theorem mw_2_14 : (Jvm.Cond.methodLink "MazeBoardLaw" (27 : Nat) ({ cls := "MazeBoard", name := "kick", desc := "()V" } : Jvm.MethodName)) ∈ BG := BG_of (mt_2 (List.mem_of_getElem? (i := 14) rfl)) rfl
theorem mw_2_15 : (Jvm.Cond.instanceMethod ({ cls := "MazeBoard", name := "kick", desc := "()V" } : Jvm.MethodName)) ∈ BG := BG_of (mt_2 (List.mem_of_getElem? (i := 15) rfl)) rfl
theorem mw_2_16 : (Jvm.Cond.selects "MazeBoard" ({ cls := "MazeBoard", name := "kick", desc := "()V" } : Jvm.MethodName) ({ cls := "MazeBoard", name := "kick", desc := "()V" } : Jvm.MethodName)) ∈ BG := BG_of (mt_2 (List.mem_of_getElem? (i := 16) rfl)) rfl
theorem mw_2_17 : (Jvm.Cond.code ({ cls := "MazeBoard", name := "kick", desc := "()V" } : Jvm.MethodName) prog_1_method_5_code (1 : Nat) (Option.none : Option Jvm.ClassFile.FieldType)) ∈ BG := BG_of (mt_2 (List.mem_of_getElem? (i := 17) rfl)) rfl
theorem mw_2_18 : (Jvm.Cond.methodLink "MazeBoardLaw" (31 : Nat) ({ cls := "MazeBoard", name := "frames", desc := "(I)I" } : Jvm.MethodName)) ∈ BG := BG_of (mt_2 (List.mem_of_getElem? (i := 18) rfl)) rfl
theorem mw_2_19 : (Jvm.Cond.instanceMethod ({ cls := "MazeBoard", name := "frames", desc := "(I)I" } : Jvm.MethodName)) ∈ BG := BG_of (mt_2 (List.mem_of_getElem? (i := 19) rfl)) rfl
theorem mw_2_20 : (Jvm.Cond.selects "MazeBoard" ({ cls := "MazeBoard", name := "frames", desc := "(I)I" } : Jvm.MethodName) ({ cls := "MazeBoard", name := "frames", desc := "(I)I" } : Jvm.MethodName)) ∈ BG := BG_of (mt_2 (List.mem_of_getElem? (i := 20) rfl)) rfl
theorem mw_2_21 : (Jvm.Cond.code ({ cls := "MazeBoard", name := "frames", desc := "(I)I" } : Jvm.MethodName) prog_1_method_6_code (3 : Nat) (Option.some Jvm.ClassFile.FieldType.int)) ∈ BG := BG_of (mt_2 (List.mem_of_getElem? (i := 21) rfl)) rfl
theorem mw_2_22 : (Jvm.Cond.methodLink "MazeBoard" (40 : Nat) ({ cls := "MazeBoard$Game", name := "playFrame", desc := "(I)V" } : Jvm.MethodName)) ∈ BG := BG_of (mt_2 (List.mem_of_getElem? (i := 22) rfl)) rfl
theorem mw_2_23 : (Jvm.Cond.instanceMethod ({ cls := "MazeBoard$Game", name := "playFrame", desc := "(I)V" } : Jvm.MethodName)) ∈ BG := BG_of (mt_2 (List.mem_of_getElem? (i := 23) rfl)) rfl
theorem mw_2_24 : (Jvm.Cond.selects "MazeBoard$Game" ({ cls := "MazeBoard$Game", name := "playFrame", desc := "(I)V" } : Jvm.MethodName) ({ cls := "MazeBoard$Game", name := "playFrame", desc := "(I)V" } : Jvm.MethodName)) ∈ BG := BG_of (mt_2 (List.mem_of_getElem? (i := 24) rfl)) rfl
theorem mw_2_25 : (Jvm.Cond.code ({ cls := "MazeBoard$Game", name := "playFrame", desc := "(I)V" } : Jvm.MethodName) prog_3_method_6_code (3 : Nat) (Option.none : Option Jvm.ClassFile.FieldType)) ∈ BG := BG_of (mt_2 (List.mem_of_getElem? (i := 25) rfl)) rfl
theorem mw_2_26 : (Jvm.Cond.methodLink "MazeBoard$Game" (83 : Nat) ({ cls := "MazeBoard$Actor", name := "rememberCell", desc := "()V" } : Jvm.MethodName)) ∈ BG := BG_of (mt_2 (List.mem_of_getElem? (i := 26) rfl)) rfl
theorem mw_2_27 : (Jvm.Cond.instanceMethod ({ cls := "MazeBoard$Actor", name := "rememberCell", desc := "()V" } : Jvm.MethodName)) ∈ BG := BG_of (mt_2 (List.mem_of_getElem? (i := 27) rfl)) rfl
theorem mw_2_28 : (Jvm.Cond.selects "MazeBoard$Actor" ({ cls := "MazeBoard$Actor", name := "rememberCell", desc := "()V" } : Jvm.MethodName) ({ cls := "MazeBoard$Actor", name := "rememberCell", desc := "()V" } : Jvm.MethodName)) ∈ BG := BG_of (mt_2 (List.mem_of_getElem? (i := 28) rfl)) rfl
theorem mw_2_29 : (Jvm.Cond.code ({ cls := "MazeBoard$Actor", name := "rememberCell", desc := "()V" } : Jvm.MethodName) prog_2_method_3_code (1 : Nat) (Option.none : Option Jvm.ClassFile.FieldType)) ∈ BG := BG_of (mt_2 (List.mem_of_getElem? (i := 29) rfl)) rfl
theorem mw_2_30 : (Jvm.Cond.methodLink "MazeBoard$Game" (86 : Nat) ({ cls := "MazeBoard$Game", name := "passTime", desc := "()V" } : Jvm.MethodName)) ∈ BG := BG_of (mt_2 (List.mem_of_getElem? (i := 30) rfl)) rfl
theorem mw_2_32 : (Jvm.Cond.instanceMethod ({ cls := "MazeBoard$Game", name := "passTime", desc := "()V" } : Jvm.MethodName)) ∈ BG := BG_of (mt_2 (List.mem_of_getElem? (i := 32) rfl)) rfl
theorem mw_2_33 : (Jvm.Cond.code ({ cls := "MazeBoard$Game", name := "passTime", desc := "()V" } : Jvm.MethodName) prog_3_method_7_code (2 : Nat) (Option.none : Option Jvm.ClassFile.FieldType)) ∈ BG := BG_of (mt_2 (List.mem_of_getElem? (i := 33) rfl)) rfl
theorem mw_2_34 : (Jvm.Cond.methodLink "MazeBoard$Game" (89 : Nat) ({ cls := "MazeBoard$Game", name := "movePlayer", desc := "(I)Z" } : Jvm.MethodName)) ∈ BG := BG_of (mt_2 (List.mem_of_getElem? (i := 34) rfl)) rfl
theorem mw_2_36 : (Jvm.Cond.instanceMethod ({ cls := "MazeBoard$Game", name := "movePlayer", desc := "(I)Z" } : Jvm.MethodName)) ∈ BG := BG_of (mt_2 (List.mem_of_getElem? (i := 36) rfl)) rfl
theorem mw_2_37 : (Jvm.Cond.code ({ cls := "MazeBoard$Game", name := "movePlayer", desc := "(I)Z" } : Jvm.MethodName) prog_3_method_9_code (2 : Nat) (Option.some Jvm.ClassFile.FieldType.boolean)) ∈ BG := BG_of (mt_2 (List.mem_of_getElem? (i := 37) rfl)) rfl
theorem mw_2_38 : (Jvm.Cond.methodLink "MazeBoard$Game" (113 : Nat) ({ cls := "MazeBoard$Game", name := "isStickOpen", desc := "(I)Z" } : Jvm.MethodName)) ∈ BG := BG_of (mt_2 (List.mem_of_getElem? (i := 38) rfl)) rfl
theorem mw_2_40 : (Jvm.Cond.instanceMethod ({ cls := "MazeBoard$Game", name := "isStickOpen", desc := "(I)Z" } : Jvm.MethodName)) ∈ BG := BG_of (mt_2 (List.mem_of_getElem? (i := 40) rfl)) rfl
theorem mw_2_41 : (Jvm.Cond.code ({ cls := "MazeBoard$Game", name := "isStickOpen", desc := "(I)Z" } : Jvm.MethodName) prog_3_method_10_code (2 : Nat) (Option.some Jvm.ClassFile.FieldType.boolean)) ∈ BG := BG_of (mt_2 (List.mem_of_getElem? (i := 41) rfl)) rfl
theorem mw_2_42 : (Jvm.Cond.methodLink "MazeBoard$Game" (119 : Nat) ({ cls := "MazeBoard$Maze", name := "isOpen", desc := "(LMazeBoard$Actor;I)Z" } : Jvm.MethodName)) ∈ BG := BG_of (mt_2 (List.mem_of_getElem? (i := 42) rfl)) rfl
theorem mw_2_43 : (Jvm.Cond.instanceMethod ({ cls := "MazeBoard$Maze", name := "isOpen", desc := "(LMazeBoard$Actor;I)Z" } : Jvm.MethodName)) ∈ BG := BG_of (mt_2 (List.mem_of_getElem? (i := 43) rfl)) rfl
theorem mw_2_44 : (Jvm.Cond.selects "MazeBoard$Maze" ({ cls := "MazeBoard$Maze", name := "isOpen", desc := "(LMazeBoard$Actor;I)Z" } : Jvm.MethodName) ({ cls := "MazeBoard$Maze", name := "isOpen", desc := "(LMazeBoard$Actor;I)Z" } : Jvm.MethodName)) ∈ BG := BG_of (mt_2 (List.mem_of_getElem? (i := 44) rfl)) rfl
theorem mw_2_45 : (Jvm.Cond.code ({ cls := "MazeBoard$Maze", name := "isOpen", desc := "(LMazeBoard$Actor;I)Z" } : Jvm.MethodName) prog_4_method_4_code (4 : Nat) (Option.some Jvm.ClassFile.FieldType.boolean)) ∈ BG := BG_of (mt_2 (List.mem_of_getElem? (i := 45) rfl)) rfl
theorem mw_2_47 : (Jvm.Cond.static ({ cls := "MazeBoard", name := "nextColumn", desc := "(II)I" } : Jvm.MethodName)) ∈ BG := BG_of (mt_2 (List.mem_of_getElem? (i := 47) rfl)) rfl
theorem mw_2_48 : (Jvm.Cond.code ({ cls := "MazeBoard", name := "nextColumn", desc := "(II)I" } : Jvm.MethodName) prog_1_method_15_code (2 : Nat) (Option.some Jvm.ClassFile.FieldType.int)) ∈ BG := BG_of (mt_2 (List.mem_of_getElem? (i := 48) rfl)) rfl
theorem mw_2_50 : (Jvm.Cond.static ({ cls := "MazeBoard", name := "nextRow", desc := "(II)I" } : Jvm.MethodName)) ∈ BG := BG_of (mt_2 (List.mem_of_getElem? (i := 50) rfl)) rfl
theorem mw_2_51 : (Jvm.Cond.code ({ cls := "MazeBoard", name := "nextRow", desc := "(II)I" } : Jvm.MethodName) prog_1_method_16_code (2 : Nat) (Option.some Jvm.ClassFile.FieldType.int)) ∈ BG := BG_of (mt_2 (List.mem_of_getElem? (i := 51) rfl)) rfl
theorem mw_2_52 : (Jvm.Cond.methodLink "MazeBoard$Maze" (37 : Nat) ({ cls := "MazeBoard$Maze", name := "whatIs", desc := "(II)I" } : Jvm.MethodName)) ∈ BG := BG_of (mt_2 (List.mem_of_getElem? (i := 52) rfl)) rfl
theorem mw_2_53 : (Jvm.Cond.instanceMethod ({ cls := "MazeBoard$Maze", name := "whatIs", desc := "(II)I" } : Jvm.MethodName)) ∈ BG := BG_of (mt_2 (List.mem_of_getElem? (i := 53) rfl)) rfl
theorem mw_2_54 : (Jvm.Cond.selects "MazeBoard$Maze" ({ cls := "MazeBoard$Maze", name := "whatIs", desc := "(II)I" } : Jvm.MethodName) ({ cls := "MazeBoard$Maze", name := "whatIs", desc := "(II)I" } : Jvm.MethodName)) ∈ BG := BG_of (mt_2 (List.mem_of_getElem? (i := 54) rfl)) rfl
theorem mw_2_55 : (Jvm.Cond.code ({ cls := "MazeBoard$Maze", name := "whatIs", desc := "(II)I" } : Jvm.MethodName) prog_4_method_3_code (3 : Nat) (Option.some Jvm.ClassFile.FieldType.int)) ∈ BG := BG_of (mt_2 (List.mem_of_getElem? (i := 55) rfl)) rfl
theorem mw_2_56 : (Jvm.Cond.constantFloat "MazeBoard$Game" (123 : Nat) (1045220557 : UInt32)) ∈ BG := BG_of (mt_2 (List.mem_of_getElem? (i := 56) rfl)) rfl
theorem mw_2_57 : (Jvm.Cond.constantFloat "MazeBoard$Game" (124 : Nat) (1028443341 : UInt32)) ∈ BG := BG_of (mt_2 (List.mem_of_getElem? (i := 57) rfl)) rfl
theorem mw_2_58 : (Jvm.Cond.methodLink "MazeBoard$Game" (125 : Nat) ({ cls := "java/lang/Math", name := "min", desc := "(II)I" } : Jvm.MethodName)) ∈ BG := BG_of (mt_2 (List.mem_of_getElem? (i := 58) rfl)) rfl
theorem mw_2_59 : (Jvm.Cond.static ({ cls := "java/lang/Math", name := "min", desc := "(II)I" } : Jvm.MethodName)) ∈ BG := BG_of (mt_2 (List.mem_of_getElem? (i := 59) rfl)) rfl
theorem mw_2_60 : (Jvm.Cond.code ({ cls := "java/lang/Math", name := "min", desc := "(II)I" } : Jvm.MethodName) prog_10_method_69_code (2 : Nat) (Option.some Jvm.ClassFile.FieldType.int)) ∈ BG := BG_of (mt_2 (List.mem_of_getElem? (i := 60) rfl)) rfl
theorem mw_2_61 : (Jvm.Cond.methodLink "MazeBoard$Game" (131 : Nat) ({ cls := "MazeBoard$Actor", name := "enterNextCell", desc := "()V" } : Jvm.MethodName)) ∈ BG := BG_of (mt_2 (List.mem_of_getElem? (i := 61) rfl)) rfl
theorem mw_2_62 : (Jvm.Cond.instanceMethod ({ cls := "MazeBoard$Actor", name := "enterNextCell", desc := "()V" } : Jvm.MethodName)) ∈ BG := BG_of (mt_2 (List.mem_of_getElem? (i := 62) rfl)) rfl
theorem mw_2_63 : (Jvm.Cond.selects "MazeBoard$Actor" ({ cls := "MazeBoard$Actor", name := "enterNextCell", desc := "()V" } : Jvm.MethodName) ({ cls := "MazeBoard$Actor", name := "enterNextCell", desc := "()V" } : Jvm.MethodName)) ∈ BG := BG_of (mt_2 (List.mem_of_getElem? (i := 63) rfl)) rfl
theorem mw_2_64 : (Jvm.Cond.code ({ cls := "MazeBoard$Actor", name := "enterNextCell", desc := "()V" } : Jvm.MethodName) prog_2_method_4_code (1 : Nat) (Option.none : Option Jvm.ClassFile.FieldType)) ∈ BG := BG_of (mt_2 (List.mem_of_getElem? (i := 64) rfl)) rfl
theorem mw_2_67 : (Jvm.Cond.methodLink "MazeBoard$Game" (93 : Nat) ({ cls := "MazeBoard$Game", name := "eatHere", desc := "()V" } : Jvm.MethodName)) ∈ BG := BG_of (mt_2 (List.mem_of_getElem? (i := 67) rfl)) rfl
theorem mw_2_69 : (Jvm.Cond.instanceMethod ({ cls := "MazeBoard$Game", name := "eatHere", desc := "()V" } : Jvm.MethodName)) ∈ BG := BG_of (mt_2 (List.mem_of_getElem? (i := 69) rfl)) rfl
theorem mw_2_70 : (Jvm.Cond.code ({ cls := "MazeBoard$Game", name := "eatHere", desc := "()V" } : Jvm.MethodName) prog_3_method_11_code (2 : Nat) (Option.none : Option Jvm.ClassFile.FieldType)) ∈ BG := BG_of (mt_2 (List.mem_of_getElem? (i := 70) rfl)) rfl
theorem mw_2_71 : (Jvm.Cond.methodLink "MazeBoard$Game" (140 : Nat) ({ cls := "MazeBoard$Maze", name := "eat", desc := "(II)I" } : Jvm.MethodName)) ∈ BG := BG_of (mt_2 (List.mem_of_getElem? (i := 71) rfl)) rfl
theorem mw_2_72 : (Jvm.Cond.instanceMethod ({ cls := "MazeBoard$Maze", name := "eat", desc := "(II)I" } : Jvm.MethodName)) ∈ BG := BG_of (mt_2 (List.mem_of_getElem? (i := 72) rfl)) rfl
theorem mw_2_73 : (Jvm.Cond.selects "MazeBoard$Maze" ({ cls := "MazeBoard$Maze", name := "eat", desc := "(II)I" } : Jvm.MethodName) ({ cls := "MazeBoard$Maze", name := "eat", desc := "(II)I" } : Jvm.MethodName)) ∈ BG := BG_of (mt_2 (List.mem_of_getElem? (i := 73) rfl)) rfl
theorem mw_2_74 : (Jvm.Cond.code ({ cls := "MazeBoard$Maze", name := "eat", desc := "(II)I" } : Jvm.MethodName) prog_4_method_5_code (4 : Nat) (Option.some Jvm.ClassFile.FieldType.int)) ∈ BG := BG_of (mt_2 (List.mem_of_getElem? (i := 74) rfl)) rfl
theorem mw_2_75 : (Jvm.Cond.methodLink "MazeBoard$Game" (143 : Nat) ({ cls := "MazeBoard$Game", name := "addPoints", desc := "(I)V" } : Jvm.MethodName)) ∈ BG := BG_of (mt_2 (List.mem_of_getElem? (i := 75) rfl)) rfl
theorem mw_2_77 : (Jvm.Cond.instanceMethod ({ cls := "MazeBoard$Game", name := "addPoints", desc := "(I)V" } : Jvm.MethodName)) ∈ BG := BG_of (mt_2 (List.mem_of_getElem? (i := 77) rfl)) rfl
theorem mw_2_78 : (Jvm.Cond.code ({ cls := "MazeBoard$Game", name := "addPoints", desc := "(I)V" } : Jvm.MethodName) prog_3_method_12_code (2 : Nat) (Option.none : Option Jvm.ClassFile.FieldType)) ∈ BG := BG_of (mt_2 (List.mem_of_getElem? (i := 78) rfl)) rfl
theorem mw_2_79 : (Jvm.Cond.methodLink "MazeBoard$Game" (152 : Nat) ({ cls := "java/lang/Math", name := "max", desc := "(II)I" } : Jvm.MethodName)) ∈ BG := BG_of (mt_2 (List.mem_of_getElem? (i := 79) rfl)) rfl
theorem mw_2_80 : (Jvm.Cond.static ({ cls := "java/lang/Math", name := "max", desc := "(II)I" } : Jvm.MethodName)) ∈ BG := BG_of (mt_2 (List.mem_of_getElem? (i := 80) rfl)) rfl
theorem mw_2_81 : (Jvm.Cond.code ({ cls := "java/lang/Math", name := "max", desc := "(II)I" } : Jvm.MethodName) prog_10_method_65_code (2 : Nat) (Option.some Jvm.ClassFile.FieldType.int)) ∈ BG := BG_of (mt_2 (List.mem_of_getElem? (i := 81) rfl)) rfl
theorem mw_2_82 : (Jvm.Cond.methodLink "MazeBoard$Game" (146 : Nat) ({ cls := "MazeBoard$Game", name := "frightenHunters", desc := "()V" } : Jvm.MethodName)) ∈ BG := BG_of (mt_2 (List.mem_of_getElem? (i := 82) rfl)) rfl
theorem mw_2_84 : (Jvm.Cond.instanceMethod ({ cls := "MazeBoard$Game", name := "frightenHunters", desc := "()V" } : Jvm.MethodName)) ∈ BG := BG_of (mt_2 (List.mem_of_getElem? (i := 84) rfl)) rfl
theorem mw_2_85 : (Jvm.Cond.code ({ cls := "MazeBoard$Game", name := "frightenHunters", desc := "()V" } : Jvm.MethodName) prog_3_method_13_code (2 : Nat) (Option.none : Option Jvm.ClassFile.FieldType)) ∈ BG := BG_of (mt_2 (List.mem_of_getElem? (i := 85) rfl)) rfl
theorem mw_2_86 : (Jvm.Cond.methodLink "MazeBoard$Game" (158 : Nat) ({ cls := "MazeBoard$Game", name := "turnAbout", desc := "(LMazeBoard$Actor;)V" } : Jvm.MethodName)) ∈ BG := BG_of (mt_2 (List.mem_of_getElem? (i := 86) rfl)) rfl
theorem mw_2_88 : (Jvm.Cond.instanceMethod ({ cls := "MazeBoard$Game", name := "turnAbout", desc := "(LMazeBoard$Actor;)V" } : Jvm.MethodName)) ∈ BG := BG_of (mt_2 (List.mem_of_getElem? (i := 88) rfl)) rfl
theorem mw_2_89 : (Jvm.Cond.code ({ cls := "MazeBoard$Game", name := "turnAbout", desc := "(LMazeBoard$Actor;)V" } : Jvm.MethodName) prog_3_method_14_code (3 : Nat) (Option.none : Option Jvm.ClassFile.FieldType)) ∈ BG := BG_of (mt_2 (List.mem_of_getElem? (i := 89) rfl)) rfl
theorem mw_2_91 : (Jvm.Cond.static ({ cls := "MazeBoard", name := "opposite", desc := "(I)I" } : Jvm.MethodName)) ∈ BG := BG_of (mt_2 (List.mem_of_getElem? (i := 91) rfl)) rfl
theorem mw_2_92 : (Jvm.Cond.code ({ cls := "MazeBoard", name := "opposite", desc := "(I)I" } : Jvm.MethodName) prog_1_method_19_code (1 : Nat) (Option.some Jvm.ClassFile.FieldType.int)) ∈ BG := BG_of (mt_2 (List.mem_of_getElem? (i := 92) rfl)) rfl
theorem mw_2_93 : (Jvm.Cond.methodLink "MazeBoard$Game" (96 : Nat) ({ cls := "MazeBoard$Game", name := "moveHunter", desc := "(I)V" } : Jvm.MethodName)) ∈ BG := BG_of (mt_2 (List.mem_of_getElem? (i := 93) rfl)) rfl
theorem mw_2_95 : (Jvm.Cond.instanceMethod ({ cls := "MazeBoard$Game", name := "moveHunter", desc := "(I)V" } : Jvm.MethodName)) ∈ BG := BG_of (mt_2 (List.mem_of_getElem? (i := 95) rfl)) rfl
theorem mw_2_96 : (Jvm.Cond.code ({ cls := "MazeBoard$Game", name := "moveHunter", desc := "(I)V" } : Jvm.MethodName) prog_3_method_15_code (4 : Nat) (Option.none : Option Jvm.ClassFile.FieldType)) ∈ BG := BG_of (mt_2 (List.mem_of_getElem? (i := 96) rfl)) rfl
theorem mw_2_97 : (Jvm.Cond.methodLink "MazeBoard$Game" (169 : Nat) ({ cls := "MazeBoard$Game", name := "chooseDirection", desc := "(LMazeBoard$Actor;I)V" } : Jvm.MethodName)) ∈ BG := BG_of (mt_2 (List.mem_of_getElem? (i := 97) rfl)) rfl
theorem mw_2_99 : (Jvm.Cond.instanceMethod ({ cls := "MazeBoard$Game", name := "chooseDirection", desc := "(LMazeBoard$Actor;I)V" } : Jvm.MethodName)) ∈ BG := BG_of (mt_2 (List.mem_of_getElem? (i := 99) rfl)) rfl
theorem mw_2_100 : (Jvm.Cond.code ({ cls := "MazeBoard$Game", name := "chooseDirection", desc := "(LMazeBoard$Actor;I)V" } : Jvm.MethodName) prog_3_method_16_code (3 : Nat) (Option.none : Option Jvm.ClassFile.FieldType)) ∈ BG := BG_of (mt_2 (List.mem_of_getElem? (i := 100) rfl)) rfl
theorem mw_2_101 : (Jvm.Cond.methodLink "MazeBoard$Game" (179 : Nat) ({ cls := "MazeBoard$Game", name := "drawNumber", desc := "()I" } : Jvm.MethodName)) ∈ BG := BG_of (mt_2 (List.mem_of_getElem? (i := 101) rfl)) rfl
theorem mw_2_103 : (Jvm.Cond.instanceMethod ({ cls := "MazeBoard$Game", name := "drawNumber", desc := "()I" } : Jvm.MethodName)) ∈ BG := BG_of (mt_2 (List.mem_of_getElem? (i := 103) rfl)) rfl
theorem mw_2_104 : (Jvm.Cond.code ({ cls := "MazeBoard$Game", name := "drawNumber", desc := "()I" } : Jvm.MethodName) prog_3_method_17_code (1 : Nat) (Option.some Jvm.ClassFile.FieldType.int)) ∈ BG := BG_of (mt_2 (List.mem_of_getElem? (i := 104) rfl)) rfl
theorem mw_2_105 : (Jvm.Cond.constant "MazeBoard$Game" (194 : Nat) (1103515245 : Int32)) ∈ BG := BG_of (mt_2 (List.mem_of_getElem? (i := 105) rfl)) rfl
theorem mw_2_106 : (Jvm.Cond.methodLink "MazeBoard$Game" (183 : Nat) ({ cls := "MazeBoard$Game", name := "firstOpenFrom", desc := "(ILMazeBoard$Actor;)I" } : Jvm.MethodName)) ∈ BG := BG_of (mt_2 (List.mem_of_getElem? (i := 106) rfl)) rfl
theorem mw_2_108 : (Jvm.Cond.instanceMethod ({ cls := "MazeBoard$Game", name := "firstOpenFrom", desc := "(ILMazeBoard$Actor;)I" } : Jvm.MethodName)) ∈ BG := BG_of (mt_2 (List.mem_of_getElem? (i := 108) rfl)) rfl
theorem mw_2_109 : (Jvm.Cond.code ({ cls := "MazeBoard$Game", name := "firstOpenFrom", desc := "(ILMazeBoard$Actor;)I" } : Jvm.MethodName) prog_3_method_18_code (6 : Nat) (Option.some Jvm.ClassFile.FieldType.int)) ∈ BG := BG_of (mt_2 (List.mem_of_getElem? (i := 109) rfl)) rfl
theorem mw_2_110 : (Jvm.Cond.methodLink "MazeBoard$Game" (187 : Nat) ({ cls := "MazeBoard$Game", name := "setAim", desc := "(LMazeBoard$Actor;I)V" } : Jvm.MethodName)) ∈ BG := BG_of (mt_2 (List.mem_of_getElem? (i := 110) rfl)) rfl
theorem mw_2_112 : (Jvm.Cond.instanceMethod ({ cls := "MazeBoard$Game", name := "setAim", desc := "(LMazeBoard$Actor;I)V" } : Jvm.MethodName)) ∈ BG := BG_of (mt_2 (List.mem_of_getElem? (i := 112) rfl)) rfl
theorem mw_2_113 : (Jvm.Cond.code ({ cls := "MazeBoard$Game", name := "setAim", desc := "(LMazeBoard$Actor;I)V" } : Jvm.MethodName) prog_3_method_20_code (3 : Nat) (Option.none : Option Jvm.ClassFile.FieldType)) ∈ BG := BG_of (mt_2 (List.mem_of_getElem? (i := 113) rfl)) rfl
theorem mw_2_114 : (Jvm.Cond.methodLink "MazeBoard$Game" (214 : Nat) ({ cls := "MazeBoard$Actor", name := "aimAt", desc := "(II)V" } : Jvm.MethodName)) ∈ BG := BG_of (mt_2 (List.mem_of_getElem? (i := 114) rfl)) rfl
theorem mw_2_115 : (Jvm.Cond.instanceMethod ({ cls := "MazeBoard$Actor", name := "aimAt", desc := "(II)V" } : Jvm.MethodName)) ∈ BG := BG_of (mt_2 (List.mem_of_getElem? (i := 115) rfl)) rfl
theorem mw_2_116 : (Jvm.Cond.selects "MazeBoard$Actor" ({ cls := "MazeBoard$Actor", name := "aimAt", desc := "(II)V" } : Jvm.MethodName) ({ cls := "MazeBoard$Actor", name := "aimAt", desc := "(II)V" } : Jvm.MethodName)) ∈ BG := BG_of (mt_2 (List.mem_of_getElem? (i := 116) rfl)) rfl
theorem mw_2_117 : (Jvm.Cond.code ({ cls := "MazeBoard$Actor", name := "aimAt", desc := "(II)V" } : Jvm.MethodName) prog_2_method_7_code (3 : Nat) (Option.none : Option Jvm.ClassFile.FieldType)) ∈ BG := BG_of (mt_2 (List.mem_of_getElem? (i := 117) rfl)) rfl
theorem mw_2_118 : (Jvm.Cond.methodLink "MazeBoard$Game" (218 : Nat) ({ cls := "MazeBoard$Game", name := "isScatter", desc := "()Z" } : Jvm.MethodName)) ∈ BG := BG_of (mt_2 (List.mem_of_getElem? (i := 118) rfl)) rfl
theorem mw_2_120 : (Jvm.Cond.instanceMethod ({ cls := "MazeBoard$Game", name := "isScatter", desc := "()Z" } : Jvm.MethodName)) ∈ BG := BG_of (mt_2 (List.mem_of_getElem? (i := 120) rfl)) rfl
theorem mw_2_121 : (Jvm.Cond.code ({ cls := "MazeBoard$Game", name := "isScatter", desc := "()Z" } : Jvm.MethodName) prog_3_method_8_code (1 : Nat) (Option.some Jvm.ClassFile.FieldType.boolean)) ∈ BG := BG_of (mt_2 (List.mem_of_getElem? (i := 121) rfl)) rfl
theorem mw_2_122 : (Jvm.Cond.methodLink "MazeBoard$Game" (222 : Nat) ({ cls := "MazeBoard$Game", name := "isNearPlayer", desc := "(LMazeBoard$Actor;)Z" } : Jvm.MethodName)) ∈ BG := BG_of (mt_2 (List.mem_of_getElem? (i := 122) rfl)) rfl
theorem mw_2_124 : (Jvm.Cond.instanceMethod ({ cls := "MazeBoard$Game", name := "isNearPlayer", desc := "(LMazeBoard$Actor;)Z" } : Jvm.MethodName)) ∈ BG := BG_of (mt_2 (List.mem_of_getElem? (i := 124) rfl)) rfl
theorem mw_2_125 : (Jvm.Cond.code ({ cls := "MazeBoard$Game", name := "isNearPlayer", desc := "(LMazeBoard$Actor;)Z" } : Jvm.MethodName) prog_3_method_21_code (2 : Nat) (Option.some Jvm.ClassFile.FieldType.boolean)) ∈ BG := BG_of (mt_2 (List.mem_of_getElem? (i := 125) rfl)) rfl
theorem mw_2_127 : (Jvm.Cond.static ({ cls := "MazeBoard", name := "distance", desc := "(IIII)I" } : Jvm.MethodName)) ∈ BG := BG_of (mt_2 (List.mem_of_getElem? (i := 127) rfl)) rfl
theorem mw_2_128 : (Jvm.Cond.code ({ cls := "MazeBoard", name := "distance", desc := "(IIII)I" } : Jvm.MethodName) prog_1_method_20_code (6 : Nat) (Option.some Jvm.ClassFile.FieldType.int)) ∈ BG := BG_of (mt_2 (List.mem_of_getElem? (i := 128) rfl)) rfl
theorem mw_2_129 : (Jvm.Cond.methodLink "MazeBoard$Game" (226 : Nat) ({ cls := "MazeBoard$Game", name := "aimAtPlayer", desc := "(LMazeBoard$Actor;I)V" } : Jvm.MethodName)) ∈ BG := BG_of (mt_2 (List.mem_of_getElem? (i := 129) rfl)) rfl
theorem mw_2_131 : (Jvm.Cond.instanceMethod ({ cls := "MazeBoard$Game", name := "aimAtPlayer", desc := "(LMazeBoard$Actor;I)V" } : Jvm.MethodName)) ∈ BG := BG_of (mt_2 (List.mem_of_getElem? (i := 131) rfl)) rfl
theorem mw_2_132 : (Jvm.Cond.code ({ cls := "MazeBoard$Game", name := "aimAtPlayer", desc := "(LMazeBoard$Actor;I)V" } : Jvm.MethodName) prog_3_method_22_code (5 : Nat) (Option.none : Option Jvm.ClassFile.FieldType)) ∈ BG := BG_of (mt_2 (List.mem_of_getElem? (i := 132) rfl)) rfl
theorem mw_2_134 : (Jvm.Cond.static ({ cls := "MazeBoard", name := "columnStep", desc := "(I)I" } : Jvm.MethodName)) ∈ BG := BG_of (mt_2 (List.mem_of_getElem? (i := 134) rfl)) rfl
theorem mw_2_135 : (Jvm.Cond.code ({ cls := "MazeBoard", name := "columnStep", desc := "(I)I" } : Jvm.MethodName) prog_1_method_17_code (1 : Nat) (Option.some Jvm.ClassFile.FieldType.int)) ∈ BG := BG_of (mt_2 (List.mem_of_getElem? (i := 135) rfl)) rfl
theorem mw_2_137 : (Jvm.Cond.static ({ cls := "MazeBoard", name := "rowStep", desc := "(I)I" } : Jvm.MethodName)) ∈ BG := BG_of (mt_2 (List.mem_of_getElem? (i := 137) rfl)) rfl
theorem mw_2_138 : (Jvm.Cond.code ({ cls := "MazeBoard", name := "rowStep", desc := "(I)I" } : Jvm.MethodName) prog_1_method_18_code (1 : Nat) (Option.some Jvm.ClassFile.FieldType.int)) ∈ BG := BG_of (mt_2 (List.mem_of_getElem? (i := 138) rfl)) rfl
theorem mw_2_139 : (Jvm.Cond.methodLink "MazeBoard$Game" (190 : Nat) ({ cls := "MazeBoard$Game", name := "nearestToAim", desc := "(LMazeBoard$Actor;)I" } : Jvm.MethodName)) ∈ BG := BG_of (mt_2 (List.mem_of_getElem? (i := 139) rfl)) rfl
theorem mw_2_141 : (Jvm.Cond.instanceMethod ({ cls := "MazeBoard$Game", name := "nearestToAim", desc := "(LMazeBoard$Actor;)I" } : Jvm.MethodName)) ∈ BG := BG_of (mt_2 (List.mem_of_getElem? (i := 141) rfl)) rfl
theorem mw_2_142 : (Jvm.Cond.code ({ cls := "MazeBoard$Game", name := "nearestToAim", desc := "(LMazeBoard$Actor;)I" } : Jvm.MethodName) prog_3_method_19_code (9 : Nat) (Option.some Jvm.ClassFile.FieldType.int)) ∈ BG := BG_of (mt_2 (List.mem_of_getElem? (i := 142) rfl)) rfl
theorem mw_2_143 : (Jvm.Cond.constant "MazeBoard$Game" (197 : Nat) (2147483647 : Int32)) ∈ BG := BG_of (mt_2 (List.mem_of_getElem? (i := 143) rfl)) rfl
theorem mw_2_146 : (Jvm.Cond.constantFloat "MazeBoard$Game" (173 : Nat) (1044549468 : UInt32)) ∈ BG := BG_of (mt_2 (List.mem_of_getElem? (i := 146) rfl)) rfl
theorem mw_2_147 : (Jvm.Cond.constantFloat "MazeBoard$Game" (174 : Nat) (1025758986 : UInt32)) ∈ BG := BG_of (mt_2 (List.mem_of_getElem? (i := 147) rfl)) rfl
theorem mw_2_148 : (Jvm.Cond.methodLink "MazeBoard$Game" (175 : Nat) ({ cls := "MazeBoard$Actor", name := "isAt", desc := "(II)Z" } : Jvm.MethodName)) ∈ BG := BG_of (mt_2 (List.mem_of_getElem? (i := 148) rfl)) rfl
theorem mw_2_149 : (Jvm.Cond.instanceMethod ({ cls := "MazeBoard$Actor", name := "isAt", desc := "(II)Z" } : Jvm.MethodName)) ∈ BG := BG_of (mt_2 (List.mem_of_getElem? (i := 149) rfl)) rfl
theorem mw_2_150 : (Jvm.Cond.selects "MazeBoard$Actor" ({ cls := "MazeBoard$Actor", name := "isAt", desc := "(II)Z" } : Jvm.MethodName) ({ cls := "MazeBoard$Actor", name := "isAt", desc := "(II)Z" } : Jvm.MethodName)) ∈ BG := BG_of (mt_2 (List.mem_of_getElem? (i := 150) rfl)) rfl
theorem mw_2_151 : (Jvm.Cond.code ({ cls := "MazeBoard$Actor", name := "isAt", desc := "(II)Z" } : Jvm.MethodName) prog_2_method_5_code (3 : Nat) (Option.some Jvm.ClassFile.FieldType.boolean)) ∈ BG := BG_of (mt_2 (List.mem_of_getElem? (i := 151) rfl)) rfl
theorem mw_2_152 : (Jvm.Cond.methodLink "MazeBoard$Game" (100 : Nat) ({ cls := "MazeBoard$Game", name := "meetHunters", desc := "()V" } : Jvm.MethodName)) ∈ BG := BG_of (mt_2 (List.mem_of_getElem? (i := 152) rfl)) rfl
theorem mw_2_154 : (Jvm.Cond.instanceMethod ({ cls := "MazeBoard$Game", name := "meetHunters", desc := "()V" } : Jvm.MethodName)) ∈ BG := BG_of (mt_2 (List.mem_of_getElem? (i := 154) rfl)) rfl
theorem mw_2_155 : (Jvm.Cond.code ({ cls := "MazeBoard$Game", name := "meetHunters", desc := "()V" } : Jvm.MethodName) prog_3_method_23_code (3 : Nat) (Option.none : Option Jvm.ClassFile.FieldType)) ∈ BG := BG_of (mt_2 (List.mem_of_getElem? (i := 155) rfl)) rfl
theorem mw_2_156 : (Jvm.Cond.methodLink "MazeBoard$Game" (235 : Nat) ({ cls := "MazeBoard$Actor", name := "meets", desc := "(LMazeBoard$Actor;)Z" } : Jvm.MethodName)) ∈ BG := BG_of (mt_2 (List.mem_of_getElem? (i := 156) rfl)) rfl
theorem mw_2_157 : (Jvm.Cond.instanceMethod ({ cls := "MazeBoard$Actor", name := "meets", desc := "(LMazeBoard$Actor;)Z" } : Jvm.MethodName)) ∈ BG := BG_of (mt_2 (List.mem_of_getElem? (i := 157) rfl)) rfl
theorem mw_2_158 : (Jvm.Cond.selects "MazeBoard$Actor" ({ cls := "MazeBoard$Actor", name := "meets", desc := "(LMazeBoard$Actor;)Z" } : Jvm.MethodName) ({ cls := "MazeBoard$Actor", name := "meets", desc := "(LMazeBoard$Actor;)Z" } : Jvm.MethodName)) ∈ BG := BG_of (mt_2 (List.mem_of_getElem? (i := 158) rfl)) rfl
theorem mw_2_159 : (Jvm.Cond.code ({ cls := "MazeBoard$Actor", name := "meets", desc := "(LMazeBoard$Actor;)Z" } : Jvm.MethodName) prog_2_method_6_code (2 : Nat) (Option.some Jvm.ClassFile.FieldType.boolean)) ∈ BG := BG_of (mt_2 (List.mem_of_getElem? (i := 159) rfl)) rfl
theorem mw_2_160 : (Jvm.Cond.methodLink "MazeBoard$Actor" (48 : Nat) ({ cls := "MazeBoard$Actor", name := "isAt", desc := "(II)Z" } : Jvm.MethodName)) ∈ BG := BG_of (mt_2 (List.mem_of_getElem? (i := 160) rfl)) rfl
theorem mw_2_161 : (Jvm.Cond.methodLink "MazeBoard$Game" (238 : Nat) ({ cls := "MazeBoard$Game", name := "eatHunter", desc := "(LMazeBoard$Actor;)V" } : Jvm.MethodName)) ∈ BG := BG_of (mt_2 (List.mem_of_getElem? (i := 161) rfl)) rfl
theorem mw_2_163 : (Jvm.Cond.instanceMethod ({ cls := "MazeBoard$Game", name := "eatHunter", desc := "(LMazeBoard$Actor;)V" } : Jvm.MethodName)) ∈ BG := BG_of (mt_2 (List.mem_of_getElem? (i := 163) rfl)) rfl
theorem mw_2_164 : (Jvm.Cond.code ({ cls := "MazeBoard$Game", name := "eatHunter", desc := "(LMazeBoard$Actor;)V" } : Jvm.MethodName) prog_3_method_24_code (2 : Nat) (Option.none : Option Jvm.ClassFile.FieldType)) ∈ BG := BG_of (mt_2 (List.mem_of_getElem? (i := 164) rfl)) rfl
theorem mw_2_165 : (Jvm.Cond.methodLink "MazeBoard$Game" (241 : Nat) ({ cls := "MazeBoard$Game", name := "loseLife", desc := "()V" } : Jvm.MethodName)) ∈ BG := BG_of (mt_2 (List.mem_of_getElem? (i := 165) rfl)) rfl
theorem mw_2_167 : (Jvm.Cond.instanceMethod ({ cls := "MazeBoard$Game", name := "loseLife", desc := "()V" } : Jvm.MethodName)) ∈ BG := BG_of (mt_2 (List.mem_of_getElem? (i := 167) rfl)) rfl
theorem mw_2_168 : (Jvm.Cond.code ({ cls := "MazeBoard$Game", name := "loseLife", desc := "()V" } : Jvm.MethodName) prog_3_method_25_code (1 : Nat) (Option.none : Option Jvm.ClassFile.FieldType)) ∈ BG := BG_of (mt_2 (List.mem_of_getElem? (i := 168) rfl)) rfl
theorem mw_2_169 : (Jvm.Cond.methodLink "MazeBoard" (44 : Nat) ({ cls := "MazeBoard$Speaker", name := "playFrame", desc := "(LMazeBoard$Game;)V" } : Jvm.MethodName)) ∈ BG := BG_of (mt_2 (List.mem_of_getElem? (i := 169) rfl)) rfl
theorem mw_2_170 : (Jvm.Cond.instanceMethod ({ cls := "MazeBoard$Speaker", name := "playFrame", desc := "(LMazeBoard$Game;)V" } : Jvm.MethodName)) ∈ BG := BG_of (mt_2 (List.mem_of_getElem? (i := 170) rfl)) rfl
theorem mw_2_171 : (Jvm.Cond.selects "MazeBoard$Speaker" ({ cls := "MazeBoard$Speaker", name := "playFrame", desc := "(LMazeBoard$Game;)V" } : Jvm.MethodName) ({ cls := "MazeBoard$Speaker", name := "playFrame", desc := "(LMazeBoard$Game;)V" } : Jvm.MethodName)) ∈ BG := BG_of (mt_2 (List.mem_of_getElem? (i := 171) rfl)) rfl
theorem mw_2_172 : (Jvm.Cond.code ({ cls := "MazeBoard$Speaker", name := "playFrame", desc := "(LMazeBoard$Game;)V" } : Jvm.MethodName) prog_6_method_3_code (3 : Nat) (Option.none : Option Jvm.ClassFile.FieldType)) ∈ BG := BG_of (mt_2 (List.mem_of_getElem? (i := 172) rfl)) rfl
theorem mw_2_173 : (Jvm.Cond.methodLink "MazeBoard$Speaker" (21 : Nat) ({ cls := "MazeBoard$Voice", name := "passFrame", desc := "()V" } : Jvm.MethodName)) ∈ BG := BG_of (mt_2 (List.mem_of_getElem? (i := 173) rfl)) rfl
theorem mw_2_174 : (Jvm.Cond.instanceMethod ({ cls := "MazeBoard$Voice", name := "passFrame", desc := "()V" } : Jvm.MethodName)) ∈ BG := BG_of (mt_2 (List.mem_of_getElem? (i := 174) rfl)) rfl
theorem mw_2_175 : (Jvm.Cond.selects "MazeBoard$Voice" ({ cls := "MazeBoard$Voice", name := "passFrame", desc := "()V" } : Jvm.MethodName) ({ cls := "MazeBoard$Voice", name := "passFrame", desc := "()V" } : Jvm.MethodName)) ∈ BG := BG_of (mt_2 (List.mem_of_getElem? (i := 175) rfl)) rfl
theorem mw_2_176 : (Jvm.Cond.code ({ cls := "MazeBoard$Voice", name := "passFrame", desc := "()V" } : Jvm.MethodName) prog_7_method_2_code (1 : Nat) (Option.none : Option Jvm.ClassFile.FieldType)) ∈ BG := BG_of (mt_2 (List.mem_of_getElem? (i := 176) rfl)) rfl
theorem mw_2_177 : (Jvm.Cond.constantFloat "MazeBoard$Voice" (21 : Nat) (1063675494 : UInt32)) ∈ BG := BG_of (mt_2 (List.mem_of_getElem? (i := 177) rfl)) rfl
theorem mw_2_178 : (Jvm.Cond.methodLink "MazeBoard$Speaker" (30 : Nat) ({ cls := "MazeBoard$Voice", name := "ring", desc := "(FI)V" } : Jvm.MethodName)) ∈ BG := BG_of (mt_2 (List.mem_of_getElem? (i := 178) rfl)) rfl
theorem mw_2_179 : (Jvm.Cond.instanceMethod ({ cls := "MazeBoard$Voice", name := "ring", desc := "(FI)V" } : Jvm.MethodName)) ∈ BG := BG_of (mt_2 (List.mem_of_getElem? (i := 179) rfl)) rfl
theorem mw_2_180 : (Jvm.Cond.selects "MazeBoard$Voice" ({ cls := "MazeBoard$Voice", name := "ring", desc := "(FI)V" } : Jvm.MethodName) ({ cls := "MazeBoard$Voice", name := "ring", desc := "(FI)V" } : Jvm.MethodName)) ∈ BG := BG_of (mt_2 (List.mem_of_getElem? (i := 180) rfl)) rfl
theorem mw_2_181 : (Jvm.Cond.code ({ cls := "MazeBoard$Voice", name := "ring", desc := "(FI)V" } : Jvm.MethodName) prog_7_method_3_code (3 : Nat) (Option.none : Option Jvm.ClassFile.FieldType)) ∈ BG := BG_of (mt_2 (List.mem_of_getElem? (i := 181) rfl)) rfl
theorem mw_2_182 : (Jvm.Cond.constantFloat "MazeBoard$Speaker" (37 : Nat) (1056964608 : UInt32)) ∈ BG := BG_of (mt_2 (List.mem_of_getElem? (i := 182) rfl)) rfl
theorem mw_2_183 : (Jvm.Cond.methodLink "MazeBoard$Speaker" (38 : Nat) ({ cls := "MazeBoard$Game", name := "humPitch", desc := "()I" } : Jvm.MethodName)) ∈ BG := BG_of (mt_2 (List.mem_of_getElem? (i := 183) rfl)) rfl
theorem mw_2_184 : (Jvm.Cond.instanceMethod ({ cls := "MazeBoard$Game", name := "humPitch", desc := "()I" } : Jvm.MethodName)) ∈ BG := BG_of (mt_2 (List.mem_of_getElem? (i := 184) rfl)) rfl
theorem mw_2_185 : (Jvm.Cond.selects "MazeBoard$Game" ({ cls := "MazeBoard$Game", name := "humPitch", desc := "()I" } : Jvm.MethodName) ({ cls := "MazeBoard$Game", name := "humPitch", desc := "()I" } : Jvm.MethodName)) ∈ BG := BG_of (mt_2 (List.mem_of_getElem? (i := 185) rfl)) rfl
theorem mw_2_186 : (Jvm.Cond.code ({ cls := "MazeBoard$Game", name := "humPitch", desc := "()I" } : Jvm.MethodName) prog_3_method_26_code (1 : Nat) (Option.some Jvm.ClassFile.FieldType.int)) ∈ BG := BG_of (mt_2 (List.mem_of_getElem? (i := 186) rfl)) rfl
theorem mw_2_187 : (Jvm.Cond.constantFloat "MazeBoard$Speaker" (45 : Nat) (1069547520 : UInt32)) ∈ BG := BG_of (mt_2 (List.mem_of_getElem? (i := 187) rfl)) rfl
theorem mw_2_188 : (Jvm.Cond.methodLink "MazeBoard" (50 : Nat) ({ cls := "MazeBoard", name := "reset", desc := "()V" } : Jvm.MethodName)) ∈ BG := BG_of (mt_2 (List.mem_of_getElem? (i := 188) rfl)) rfl
theorem mw_2_190 : (Jvm.Cond.instanceMethod ({ cls := "MazeBoard", name := "reset", desc := "()V" } : Jvm.MethodName)) ∈ BG := BG_of (mt_2 (List.mem_of_getElem? (i := 190) rfl)) rfl
theorem mw_2_191 : (Jvm.Cond.code ({ cls := "MazeBoard", name := "reset", desc := "()V" } : Jvm.MethodName) prog_1_method_14_code (1 : Nat) (Option.none : Option Jvm.ClassFile.FieldType)) ∈ BG := BG_of (mt_2 (List.mem_of_getElem? (i := 191) rfl)) rfl
theorem mw_2_192 : (Jvm.Cond.methodLink "MazeBoard" (142 : Nat) ({ cls := "MazeBoard$Game", name := "clear", desc := "()V" } : Jvm.MethodName)) ∈ BG := BG_of (mt_2 (List.mem_of_getElem? (i := 192) rfl)) rfl
theorem mw_2_193 : (Jvm.Cond.methodLink "MazeBoard" (145 : Nat) ({ cls := "MazeBoard$Speaker", name := "silence", desc := "()V" } : Jvm.MethodName)) ∈ BG := BG_of (mt_2 (List.mem_of_getElem? (i := 193) rfl)) rfl
theorem mw_2_194 : (Jvm.Cond.instanceMethod ({ cls := "MazeBoard$Speaker", name := "silence", desc := "()V" } : Jvm.MethodName)) ∈ BG := BG_of (mt_2 (List.mem_of_getElem? (i := 194) rfl)) rfl
theorem mw_2_195 : (Jvm.Cond.selects "MazeBoard$Speaker" ({ cls := "MazeBoard$Speaker", name := "silence", desc := "()V" } : Jvm.MethodName) ({ cls := "MazeBoard$Speaker", name := "silence", desc := "()V" } : Jvm.MethodName)) ∈ BG := BG_of (mt_2 (List.mem_of_getElem? (i := 195) rfl)) rfl
theorem mw_2_196 : (Jvm.Cond.code ({ cls := "MazeBoard$Speaker", name := "silence", desc := "()V" } : Jvm.MethodName) prog_6_method_2_code (2 : Nat) (Option.none : Option Jvm.ClassFile.FieldType)) ∈ BG := BG_of (mt_2 (List.mem_of_getElem? (i := 196) rfl)) rfl
theorem mw_2_197 : (Jvm.Cond.methodLink "MazeBoard$Speaker" (18 : Nat) ({ cls := "MazeBoard$Voice", name := "silence", desc := "()V" } : Jvm.MethodName)) ∈ BG := BG_of (mt_2 (List.mem_of_getElem? (i := 197) rfl)) rfl
theorem mw_2_198 : (Jvm.Cond.instanceMethod ({ cls := "MazeBoard$Voice", name := "silence", desc := "()V" } : Jvm.MethodName)) ∈ BG := BG_of (mt_2 (List.mem_of_getElem? (i := 198) rfl)) rfl
theorem mw_2_199 : (Jvm.Cond.selects "MazeBoard$Voice" ({ cls := "MazeBoard$Voice", name := "silence", desc := "()V" } : Jvm.MethodName) ({ cls := "MazeBoard$Voice", name := "silence", desc := "()V" } : Jvm.MethodName)) ∈ BG := BG_of (mt_2 (List.mem_of_getElem? (i := 199) rfl)) rfl
theorem mw_2_200 : (Jvm.Cond.code ({ cls := "MazeBoard$Voice", name := "silence", desc := "()V" } : Jvm.MethodName) prog_7_method_4_code (1 : Nat) (Option.none : Option Jvm.ClassFile.FieldType)) ∈ BG := BG_of (mt_2 (List.mem_of_getElem? (i := 200) rfl)) rfl
theorem mw_2_201 : (Jvm.Cond.methodLink "MazeBoard$Voice" (22 : Nat) ({ cls := "MazeBoard$Voice", name := "ring", desc := "(FI)V" } : Jvm.MethodName)) ∈ BG := BG_of (mt_2 (List.mem_of_getElem? (i := 201) rfl)) rfl
theorem mw_2_202 : (Jvm.Cond.methodLink "MazeBoardLaw" (36 : Nat) ({ cls := "MazeBoard", name := "look", desc := "(I)I" } : Jvm.MethodName)) ∈ BG := BG_of (mt_2 (List.mem_of_getElem? (i := 202) rfl)) rfl
theorem mw_2_203 : (Jvm.Cond.instanceMethod ({ cls := "MazeBoard", name := "look", desc := "(I)I" } : Jvm.MethodName)) ∈ BG := BG_of (mt_2 (List.mem_of_getElem? (i := 203) rfl)) rfl
theorem mw_2_204 : (Jvm.Cond.selects "MazeBoard" ({ cls := "MazeBoard", name := "look", desc := "(I)I" } : Jvm.MethodName) ({ cls := "MazeBoard", name := "look", desc := "(I)I" } : Jvm.MethodName)) ∈ BG := BG_of (mt_2 (List.mem_of_getElem? (i := 204) rfl)) rfl
theorem mw_2_205 : (Jvm.Cond.code ({ cls := "MazeBoard", name := "look", desc := "(I)I" } : Jvm.MethodName) prog_1_method_7_code (2 : Nat) (Option.some Jvm.ClassFile.FieldType.int)) ∈ BG := BG_of (mt_2 (List.mem_of_getElem? (i := 205) rfl)) rfl
theorem mw_2_206 : (Jvm.Cond.methodLink "MazeBoardLaw" (40 : Nat) ({ cls := "MazeBoard", name := "actor", desc := "(II)I" } : Jvm.MethodName)) ∈ BG := BG_of (mt_2 (List.mem_of_getElem? (i := 206) rfl)) rfl
theorem mw_2_207 : (Jvm.Cond.instanceMethod ({ cls := "MazeBoard", name := "actor", desc := "(II)I" } : Jvm.MethodName)) ∈ BG := BG_of (mt_2 (List.mem_of_getElem? (i := 207) rfl)) rfl
theorem mw_2_208 : (Jvm.Cond.selects "MazeBoard" ({ cls := "MazeBoard", name := "actor", desc := "(II)I" } : Jvm.MethodName) ({ cls := "MazeBoard", name := "actor", desc := "(II)I" } : Jvm.MethodName)) ∈ BG := BG_of (mt_2 (List.mem_of_getElem? (i := 208) rfl)) rfl
theorem mw_2_209 : (Jvm.Cond.code ({ cls := "MazeBoard", name := "actor", desc := "(II)I" } : Jvm.MethodName) prog_1_method_8_code (4 : Nat) (Option.some Jvm.ClassFile.FieldType.int)) ∈ BG := BG_of (mt_2 (List.mem_of_getElem? (i := 209) rfl)) rfl
theorem mw_2_210 : (Jvm.Cond.methodLink "MazeBoardLaw" (45 : Nat) ({ cls := "MazeBoard", name := "progress", desc := "(I)F" } : Jvm.MethodName)) ∈ BG := BG_of (mt_2 (List.mem_of_getElem? (i := 210) rfl)) rfl
theorem mw_2_211 : (Jvm.Cond.instanceMethod ({ cls := "MazeBoard", name := "progress", desc := "(I)F" } : Jvm.MethodName)) ∈ BG := BG_of (mt_2 (List.mem_of_getElem? (i := 211) rfl)) rfl
theorem mw_2_212 : (Jvm.Cond.selects "MazeBoard" ({ cls := "MazeBoard", name := "progress", desc := "(I)F" } : Jvm.MethodName) ({ cls := "MazeBoard", name := "progress", desc := "(I)F" } : Jvm.MethodName)) ∈ BG := BG_of (mt_2 (List.mem_of_getElem? (i := 212) rfl)) rfl
theorem mw_2_213 : (Jvm.Cond.code ({ cls := "MazeBoard", name := "progress", desc := "(I)F" } : Jvm.MethodName) prog_1_method_9_code (2 : Nat) (Option.some Jvm.ClassFile.FieldType.float)) ∈ BG := BG_of (mt_2 (List.mem_of_getElem? (i := 213) rfl)) rfl
theorem mw_2_214 : (Jvm.Cond.methodLink "MazeBoardLaw" (50 : Nat) ({ cls := "MazeBoard", name := "cell", desc := "(II)I" } : Jvm.MethodName)) ∈ BG := BG_of (mt_2 (List.mem_of_getElem? (i := 214) rfl)) rfl
theorem mw_2_215 : (Jvm.Cond.instanceMethod ({ cls := "MazeBoard", name := "cell", desc := "(II)I" } : Jvm.MethodName)) ∈ BG := BG_of (mt_2 (List.mem_of_getElem? (i := 215) rfl)) rfl
theorem mw_2_216 : (Jvm.Cond.selects "MazeBoard" ({ cls := "MazeBoard", name := "cell", desc := "(II)I" } : Jvm.MethodName) ({ cls := "MazeBoard", name := "cell", desc := "(II)I" } : Jvm.MethodName)) ∈ BG := BG_of (mt_2 (List.mem_of_getElem? (i := 216) rfl)) rfl
theorem mw_2_217 : (Jvm.Cond.code ({ cls := "MazeBoard", name := "cell", desc := "(II)I" } : Jvm.MethodName) prog_1_method_10_code (3 : Nat) (Option.some Jvm.ClassFile.FieldType.int)) ∈ BG := BG_of (mt_2 (List.mem_of_getElem? (i := 217) rfl)) rfl
theorem mw_2_218 : (Jvm.Cond.methodLink "MazeBoard" (111 : Nat) ({ cls := "MazeBoard$Maze", name := "whatIs", desc := "(II)I" } : Jvm.MethodName)) ∈ BG := BG_of (mt_2 (List.mem_of_getElem? (i := 218) rfl)) rfl
theorem mw_2_219 : (Jvm.Cond.methodLink "MazeBoardLaw" (54 : Nat) ({ cls := "MazeBoard", name := "point", desc := "(II)I" } : Jvm.MethodName)) ∈ BG := BG_of (mt_2 (List.mem_of_getElem? (i := 219) rfl)) rfl
theorem mw_2_220 : (Jvm.Cond.instanceMethod ({ cls := "MazeBoard", name := "point", desc := "(II)I" } : Jvm.MethodName)) ∈ BG := BG_of (mt_2 (List.mem_of_getElem? (i := 220) rfl)) rfl
theorem mw_2_221 : (Jvm.Cond.selects "MazeBoard" ({ cls := "MazeBoard", name := "point", desc := "(II)I" } : Jvm.MethodName) ({ cls := "MazeBoard", name := "point", desc := "(II)I" } : Jvm.MethodName)) ∈ BG := BG_of (mt_2 (List.mem_of_getElem? (i := 221) rfl)) rfl
theorem mw_2_222 : (Jvm.Cond.code ({ cls := "MazeBoard", name := "point", desc := "(II)I" } : Jvm.MethodName) prog_1_method_11_code (4 : Nat) (Option.some Jvm.ClassFile.FieldType.int)) ∈ BG := BG_of (mt_2 (List.mem_of_getElem? (i := 222) rfl)) rfl
theorem mw_2_223 : (Jvm.Cond.methodLink "MazeBoard" (117 : Nat) ({ cls := "MazeBoard$Picture", name := "covers", desc := "(LMazeBoard$Actor;IIII)Z" } : Jvm.MethodName)) ∈ BG := BG_of (mt_2 (List.mem_of_getElem? (i := 223) rfl)) rfl
theorem mw_2_224 : (Jvm.Cond.static ({ cls := "MazeBoard$Picture", name := "covers", desc := "(LMazeBoard$Actor;IIII)Z" } : Jvm.MethodName)) ∈ BG := BG_of (mt_2 (List.mem_of_getElem? (i := 224) rfl)) rfl
theorem mw_2_225 : (Jvm.Cond.code ({ cls := "MazeBoard$Picture", name := "covers", desc := "(LMazeBoard$Actor;IIII)Z" } : Jvm.MethodName) prog_5_method_4_code (12 : Nat) (Option.some Jvm.ClassFile.FieldType.boolean)) ∈ BG := BG_of (mt_2 (List.mem_of_getElem? (i := 225) rfl)) rfl
theorem mw_2_226 : (Jvm.Cond.constantFloat "MazeBoard$Picture" (31 : Nat) (1082130432 : UInt32)) ∈ BG := BG_of (mt_2 (List.mem_of_getElem? (i := 226) rfl)) rfl
theorem mw_2_229 : (Jvm.Cond.methodLink "MazeBoard$Picture" (49 : Nat) ({ cls := "java/lang/Math", name := "floorMod", desc := "(II)I" } : Jvm.MethodName)) ∈ BG := BG_of (mt_2 (List.mem_of_getElem? (i := 229) rfl)) rfl
theorem mw_2_230 : (Jvm.Cond.static ({ cls := "java/lang/Math", name := "floorMod", desc := "(II)I" } : Jvm.MethodName)) ∈ BG := BG_of (mt_2 (List.mem_of_getElem? (i := 230) rfl)) rfl
theorem mw_2_231 : (Jvm.Cond.code ({ cls := "java/lang/Math", name := "floorMod", desc := "(II)I" } : Jvm.MethodName) prog_10_method_50_code (3 : Nat) (Option.some Jvm.ClassFile.FieldType.int)) ∈ BG := BG_of (mt_2 (List.mem_of_getElem? (i := 231) rfl)) rfl
theorem mw_2_232 : (Jvm.Cond.methodLink "MazeBoard$Picture" (17 : Nat) ({ cls := "MazeBoard$Picture", name := "isMiddle", desc := "(I)Z" } : Jvm.MethodName)) ∈ BG := BG_of (mt_2 (List.mem_of_getElem? (i := 232) rfl)) rfl
theorem mw_2_233 : (Jvm.Cond.static ({ cls := "MazeBoard$Picture", name := "isMiddle", desc := "(I)Z" } : Jvm.MethodName)) ∈ BG := BG_of (mt_2 (List.mem_of_getElem? (i := 233) rfl)) rfl
theorem mw_2_234 : (Jvm.Cond.code ({ cls := "MazeBoard$Picture", name := "isMiddle", desc := "(I)Z" } : Jvm.MethodName) prog_5_method_5_code (1 : Nat) (Option.some Jvm.ClassFile.FieldType.boolean)) ∈ BG := BG_of (mt_2 (List.mem_of_getElem? (i := 234) rfl)) rfl
theorem mw_2_235 : (Jvm.Cond.methodLink "MazeBoard$Picture" (54 : Nat) ({ cls := "MazeBoard$Picture", name := "isMouth", desc := "(III)Z" } : Jvm.MethodName)) ∈ BG := BG_of (mt_2 (List.mem_of_getElem? (i := 235) rfl)) rfl
theorem mw_2_236 : (Jvm.Cond.static ({ cls := "MazeBoard$Picture", name := "isMouth", desc := "(III)Z" } : Jvm.MethodName)) ∈ BG := BG_of (mt_2 (List.mem_of_getElem? (i := 236) rfl)) rfl
theorem mw_2_237 : (Jvm.Cond.code ({ cls := "MazeBoard$Picture", name := "isMouth", desc := "(III)Z" } : Jvm.MethodName) prog_5_method_6_code (3 : Nat) (Option.some Jvm.ClassFile.FieldType.boolean)) ∈ BG := BG_of (mt_2 (List.mem_of_getElem? (i := 237) rfl)) rfl
theorem mw_2_238 : (Jvm.Cond.methodLink "MazeBoard" (121 : Nat) ({ cls := "MazeBoard$Picture", name := "spriteColour", desc := "(LMazeBoard$Actor;I)I" } : Jvm.MethodName)) ∈ BG := BG_of (mt_2 (List.mem_of_getElem? (i := 238) rfl)) rfl
theorem mw_2_239 : (Jvm.Cond.static ({ cls := "MazeBoard$Picture", name := "spriteColour", desc := "(LMazeBoard$Actor;I)I" } : Jvm.MethodName)) ∈ BG := BG_of (mt_2 (List.mem_of_getElem? (i := 239) rfl)) rfl
theorem mw_3_0 : (Jvm.Cond.code ({ cls := "MazeBoard$Picture", name := "spriteColour", desc := "(LMazeBoard$Actor;I)I" } : Jvm.MethodName) prog_5_method_3_code (2 : Nat) (Option.some Jvm.ClassFile.FieldType.int)) ∈ BG := BG_of (mt_3 (List.mem_of_getElem? (i := 0) rfl)) rfl
theorem mw_3_1 : (Jvm.Cond.methodLink "MazeBoard" (125 : Nat) ({ cls := "MazeBoard$Picture", name := "tileColour", desc := "(LMazeBoard$Maze;III)I" } : Jvm.MethodName)) ∈ BG := BG_of (mt_3 (List.mem_of_getElem? (i := 1) rfl)) rfl
theorem mw_3_2 : (Jvm.Cond.static ({ cls := "MazeBoard$Picture", name := "tileColour", desc := "(LMazeBoard$Maze;III)I" } : Jvm.MethodName)) ∈ BG := BG_of (mt_3 (List.mem_of_getElem? (i := 2) rfl)) rfl
theorem mw_3_3 : (Jvm.Cond.code ({ cls := "MazeBoard$Picture", name := "tileColour", desc := "(LMazeBoard$Maze;III)I" } : Jvm.MethodName) prog_5_method_2_code (6 : Nat) (Option.some Jvm.ClassFile.FieldType.int)) ∈ BG := BG_of (mt_3 (List.mem_of_getElem? (i := 3) rfl)) rfl
theorem mw_3_4 : (Jvm.Cond.methodLink "MazeBoard$Picture" (11 : Nat) ({ cls := "MazeBoard$Maze", name := "whatIs", desc := "(II)I" } : Jvm.MethodName)) ∈ BG := BG_of (mt_3 (List.mem_of_getElem? (i := 4) rfl)) rfl
theorem mw_3_5 : (Jvm.Cond.methodLink "MazeBoardLaw" (58 : Nat) ({ cls := "MazeBoard", name := "volume", desc := "(I)F" } : Jvm.MethodName)) ∈ BG := BG_of (mt_3 (List.mem_of_getElem? (i := 5) rfl)) rfl
theorem mw_3_6 : (Jvm.Cond.instanceMethod ({ cls := "MazeBoard", name := "volume", desc := "(I)F" } : Jvm.MethodName)) ∈ BG := BG_of (mt_3 (List.mem_of_getElem? (i := 6) rfl)) rfl
theorem mw_3_7 : (Jvm.Cond.selects "MazeBoard" ({ cls := "MazeBoard", name := "volume", desc := "(I)F" } : Jvm.MethodName) ({ cls := "MazeBoard", name := "volume", desc := "(I)F" } : Jvm.MethodName)) ∈ BG := BG_of (mt_3 (List.mem_of_getElem? (i := 7) rfl)) rfl
theorem mw_3_8 : (Jvm.Cond.code ({ cls := "MazeBoard", name := "volume", desc := "(I)F" } : Jvm.MethodName) prog_1_method_12_code (2 : Nat) (Option.some Jvm.ClassFile.FieldType.float)) ∈ BG := BG_of (mt_3 (List.mem_of_getElem? (i := 8) rfl)) rfl
theorem mw_3_9 : (Jvm.Cond.methodLink "MazeBoardLaw" (62 : Nat) ({ cls := "MazeBoard", name := "sound", desc := "()F" } : Jvm.MethodName)) ∈ BG := BG_of (mt_3 (List.mem_of_getElem? (i := 9) rfl)) rfl
theorem mw_3_10 : (Jvm.Cond.instanceMethod ({ cls := "MazeBoard", name := "sound", desc := "()F" } : Jvm.MethodName)) ∈ BG := BG_of (mt_3 (List.mem_of_getElem? (i := 10) rfl)) rfl
theorem mw_3_11 : (Jvm.Cond.selects "MazeBoard" ({ cls := "MazeBoard", name := "sound", desc := "()F" } : Jvm.MethodName) ({ cls := "MazeBoard", name := "sound", desc := "()F" } : Jvm.MethodName)) ∈ BG := BG_of (mt_3 (List.mem_of_getElem? (i := 11) rfl)) rfl
theorem mw_3_12 : (Jvm.Cond.code ({ cls := "MazeBoard", name := "sound", desc := "()F" } : Jvm.MethodName) prog_1_method_13_code (3 : Nat) (Option.some Jvm.ClassFile.FieldType.float)) ∈ BG := BG_of (mt_3 (List.mem_of_getElem? (i := 12) rfl)) rfl
theorem mw_3_13 : (Jvm.Cond.methodLink "MazeBoard" (138 : Nat) ({ cls := "MazeBoard$Voice", name := "sample", desc := "()F" } : Jvm.MethodName)) ∈ BG := BG_of (mt_3 (List.mem_of_getElem? (i := 13) rfl)) rfl
theorem mw_3_14 : (Jvm.Cond.instanceMethod ({ cls := "MazeBoard$Voice", name := "sample", desc := "()F" } : Jvm.MethodName)) ∈ BG := BG_of (mt_3 (List.mem_of_getElem? (i := 14) rfl)) rfl
theorem mw_3_15 : (Jvm.Cond.selects "MazeBoard$Voice" ({ cls := "MazeBoard$Voice", name := "sample", desc := "()F" } : Jvm.MethodName) ({ cls := "MazeBoard$Voice", name := "sample", desc := "()F" } : Jvm.MethodName)) ∈ BG := BG_of (mt_3 (List.mem_of_getElem? (i := 15) rfl)) rfl
theorem mw_3_16 : (Jvm.Cond.code ({ cls := "MazeBoard$Voice", name := "sample", desc := "()F" } : Jvm.MethodName) prog_7_method_5_code (1 : Nat) (Option.some Jvm.ClassFile.FieldType.float)) ∈ BG := BG_of (mt_3 (List.mem_of_getElem? (i := 16) rfl)) rfl
theorem mw_3_17 : (Jvm.Cond.constantFloat "MazeBoard$Voice" (26 : Nat) (1089470464 : UInt32)) ∈ BG := BG_of (mt_3 (List.mem_of_getElem? (i := 17) rfl)) rfl
theorem mw_3_18 : (Jvm.Cond.classLink "MazeBoardLaw" (10 : Nat) "MazeBoardModel") ∈ BG := BG_of (mt_3 (List.mem_of_getElem? (i := 18) rfl)) rfl
theorem mw_3_19 : (Jvm.Cond.instantiable "MazeBoardModel" (31 : Nat)) ∈ BG := BG_of (mt_3 (List.mem_of_getElem? (i := 19) rfl)) rfl
theorem mw_3_20 : (Jvm.Cond.methodLink "MazeBoardLaw" (12 : Nat) ({ cls := "MazeBoardModel", name := "<init>", desc := "()V" } : Jvm.MethodName)) ∈ BG := BG_of (mt_3 (List.mem_of_getElem? (i := 20) rfl)) rfl
theorem mw_3_21 : (Jvm.Cond.instanceMethod ({ cls := "MazeBoardModel", name := "<init>", desc := "()V" } : Jvm.MethodName)) ∈ BG := BG_of (mt_3 (List.mem_of_getElem? (i := 21) rfl)) rfl
theorem mw_3_22 : (Jvm.Cond.code ({ cls := "MazeBoardModel", name := "<init>", desc := "()V" } : Jvm.MethodName) prog_9_method_1_code (1 : Nat) (Option.none : Option Jvm.ClassFile.FieldType)) ∈ BG := BG_of (mt_3 (List.mem_of_getElem? (i := 22) rfl)) rfl
theorem mw_3_23 : (Jvm.Cond.methodLink "MazeBoardModel" (1 : Nat) ({ cls := "java/lang/Object", name := "<init>", desc := "()V" } : Jvm.MethodName)) ∈ BG := BG_of (mt_3 (List.mem_of_getElem? (i := 23) rfl)) rfl
theorem mw_3_24 : (Jvm.Cond.methodLink "MazeBoardModel" (61 : Nat) ({ cls := "MazeBoardModel", name := "draw", desc := "()V" } : Jvm.MethodName)) ∈ BG := BG_of (mt_3 (List.mem_of_getElem? (i := 24) rfl)) rfl
theorem mw_3_26 : (Jvm.Cond.instanceMethod ({ cls := "MazeBoardModel", name := "draw", desc := "()V" } : Jvm.MethodName)) ∈ BG := BG_of (mt_3 (List.mem_of_getElem? (i := 26) rfl)) rfl
theorem mw_3_27 : (Jvm.Cond.code ({ cls := "MazeBoardModel", name := "draw", desc := "()V" } : Jvm.MethodName) prog_9_method_3_code (2 : Nat) (Option.none : Option Jvm.ClassFile.FieldType)) ∈ BG := BG_of (mt_3 (List.mem_of_getElem? (i := 27) rfl)) rfl
theorem mw_3_28 : (Jvm.Cond.methodLink "MazeBoardModel" (70 : Nat) ({ cls := "MazeBoardModel", name := "both", desc := "(IIII)V" } : Jvm.MethodName)) ∈ BG := BG_of (mt_3 (List.mem_of_getElem? (i := 28) rfl)) rfl
theorem mw_3_30 : (Jvm.Cond.instanceMethod ({ cls := "MazeBoardModel", name := "both", desc := "(IIII)V" } : Jvm.MethodName)) ∈ BG := BG_of (mt_3 (List.mem_of_getElem? (i := 30) rfl)) rfl
theorem mw_3_31 : (Jvm.Cond.code ({ cls := "MazeBoardModel", name := "both", desc := "(IIII)V" } : Jvm.MethodName) prog_9_method_2_code (6 : Nat) (Option.none : Option Jvm.ClassFile.FieldType)) ∈ BG := BG_of (mt_3 (List.mem_of_getElem? (i := 31) rfl)) rfl
theorem mw_3_32 : (Jvm.Cond.methodLink "MazeBoardModel" (64 : Nat) ({ cls := "MazeBoardModel", name := "fill", desc := "()V" } : Jvm.MethodName)) ∈ BG := BG_of (mt_3 (List.mem_of_getElem? (i := 32) rfl)) rfl
theorem mw_3_34 : (Jvm.Cond.instanceMethod ({ cls := "MazeBoardModel", name := "fill", desc := "()V" } : Jvm.MethodName)) ∈ BG := BG_of (mt_3 (List.mem_of_getElem? (i := 34) rfl)) rfl
theorem mw_3_35 : (Jvm.Cond.code ({ cls := "MazeBoardModel", name := "fill", desc := "()V" } : Jvm.MethodName) prog_9_method_4_code (2 : Nat) (Option.none : Option Jvm.ClassFile.FieldType)) ∈ BG := BG_of (mt_3 (List.mem_of_getElem? (i := 35) rfl)) rfl
theorem mw_3_36 : (Jvm.Cond.methodLink "MazeBoardModel" (67 : Nat) ({ cls := "MazeBoardModel", name := "place", desc := "()V" } : Jvm.MethodName)) ∈ BG := BG_of (mt_3 (List.mem_of_getElem? (i := 36) rfl)) rfl
theorem mw_3_38 : (Jvm.Cond.instanceMethod ({ cls := "MazeBoardModel", name := "place", desc := "()V" } : Jvm.MethodName)) ∈ BG := BG_of (mt_3 (List.mem_of_getElem? (i := 38) rfl)) rfl
theorem mw_3_39 : (Jvm.Cond.code ({ cls := "MazeBoardModel", name := "place", desc := "()V" } : Jvm.MethodName) prog_9_method_6_code (1 : Nat) (Option.none : Option Jvm.ClassFile.FieldType)) ∈ BG := BG_of (mt_3 (List.mem_of_getElem? (i := 39) rfl)) rfl
theorem mw_3_40 : (Jvm.Cond.methodLink "MazeBoardModel" (74 : Nat) ({ cls := "MazeBoardModel", name := "put", desc := "(IIIII)V" } : Jvm.MethodName)) ∈ BG := BG_of (mt_3 (List.mem_of_getElem? (i := 40) rfl)) rfl
theorem mw_3_42 : (Jvm.Cond.instanceMethod ({ cls := "MazeBoardModel", name := "put", desc := "(IIIII)V" } : Jvm.MethodName)) ∈ BG := BG_of (mt_3 (List.mem_of_getElem? (i := 42) rfl)) rfl
theorem mw_3_43 : (Jvm.Cond.code ({ cls := "MazeBoardModel", name := "put", desc := "(IIIII)V" } : Jvm.MethodName) prog_9_method_5_code (6 : Nat) (Option.none : Option Jvm.ClassFile.FieldType)) ∈ BG := BG_of (mt_3 (List.mem_of_getElem? (i := 43) rfl)) rfl
theorem mw_3_44 : (Jvm.Cond.fieldLink "MazeBoardModel" (7 : Nat) "MazeBoardModel" "plan" "[I") ∈ BG := BG_of (mt_3 (List.mem_of_getElem? (i := 44) rfl)) rfl
theorem mw_3_45 : (Jvm.Cond.fieldLink "MazeBoardModel" (13 : Nat) "MazeBoardModel" "cells" "[I") ∈ BG := BG_of (mt_3 (List.mem_of_getElem? (i := 45) rfl)) rfl
theorem mw_3_46 : (Jvm.Cond.fieldLink "MazeBoardModel" (217 : Nat) "MazeBoardModel" "coins" "I") ∈ BG := BG_of (mt_3 (List.mem_of_getElem? (i := 46) rfl)) rfl
theorem mw_3_47 : (Jvm.Cond.fieldLink "MazeBoardModel" (177 : Nat) "MazeBoardModel" "game" "Z") ∈ BG := BG_of (mt_3 (List.mem_of_getElem? (i := 47) rfl)) rfl
theorem mw_3_48 : (Jvm.Cond.fieldLink "MazeBoardModel" (101 : Nat) "MazeBoardModel" "score" "I") ∈ BG := BG_of (mt_3 (List.mem_of_getElem? (i := 48) rfl)) rfl
theorem mw_3_49 : (Jvm.Cond.fieldLink "MazeBoardModel" (111 : Nat) "MazeBoardModel" "best" "I") ∈ BG := BG_of (mt_3 (List.mem_of_getElem? (i := 49) rfl)) rfl
theorem mw_3_50 : (Jvm.Cond.fieldLink "MazeBoardModel" (104 : Nat) "MazeBoardModel" "bonus" "Z") ∈ BG := BG_of (mt_3 (List.mem_of_getElem? (i := 50) rfl)) rfl
theorem mw_3_51 : (Jvm.Cond.fieldLink "MazeBoardModel" (108 : Nat) "MazeBoardModel" "lives" "I") ∈ BG := BG_of (mt_3 (List.mem_of_getElem? (i := 51) rfl)) rfl
theorem mw_3_52 : (Jvm.Cond.fieldLink "MazeBoardModel" (118 : Nat) "MazeBoardModel" "level" "I") ∈ BG := BG_of (mt_3 (List.mem_of_getElem? (i := 52) rfl)) rfl
theorem mw_3_53 : (Jvm.Cond.fieldLink "MazeBoardModel" (81 : Nat) "MazeBoardModel" "fright" "I") ∈ BG := BG_of (mt_3 (List.mem_of_getElem? (i := 53) rfl)) rfl
theorem mw_3_54 : (Jvm.Cond.fieldLink "MazeBoardModel" (78 : Nat) "MazeBoardModel" "time" "I") ∈ BG := BG_of (mt_3 (List.mem_of_getElem? (i := 54) rfl)) rfl
theorem mw_3_55 : (Jvm.Cond.fieldLink "MazeBoardModel" (139 : Nat) "MazeBoardModel" "chain" "I") ∈ BG := BG_of (mt_3 (List.mem_of_getElem? (i := 55) rfl)) rfl
theorem mw_3_56 : (Jvm.Cond.fieldLink "MazeBoardModel" (211 : Nat) "MazeBoardModel" "watch" "I") ∈ BG := BG_of (mt_3 (List.mem_of_getElem? (i := 56) rfl)) rfl
theorem mw_3_57 : (Jvm.Cond.fieldLink "MazeBoardModel" (208 : Nat) "MazeBoardModel" "count" "I") ∈ BG := BG_of (mt_3 (List.mem_of_getElem? (i := 57) rfl)) rfl
theorem mw_3_58 : (Jvm.Cond.fieldLink "MazeBoardModel" (16 : Nat) "MazeBoardModel" "draws" "I") ∈ BG := BG_of (mt_3 (List.mem_of_getElem? (i := 58) rfl)) rfl
theorem mw_3_59 : (Jvm.Cond.fieldLink "MazeBoardModel" (20 : Nat) "MazeBoardModel" "stick" "I") ∈ BG := BG_of (mt_3 (List.mem_of_getElem? (i := 59) rfl)) rfl
theorem mw_3_60 : (Jvm.Cond.fieldLink "MazeBoardModel" (23 : Nat) "MazeBoardModel" "column" "[I") ∈ BG := BG_of (mt_3 (List.mem_of_getElem? (i := 60) rfl)) rfl
theorem mw_3_61 : (Jvm.Cond.fieldLink "MazeBoardModel" (26 : Nat) "MazeBoardModel" "row" "[I") ∈ BG := BG_of (mt_3 (List.mem_of_getElem? (i := 61) rfl)) rfl
theorem mw_3_62 : (Jvm.Cond.fieldLink "MazeBoardModel" (29 : Nat) "MazeBoardModel" "direction" "[I") ∈ BG := BG_of (mt_3 (List.mem_of_getElem? (i := 62) rfl)) rfl
theorem mw_3_63 : (Jvm.Cond.fieldLink "MazeBoardModel" (32 : Nat) "MazeBoardModel" "progress" "[F") ∈ BG := BG_of (mt_3 (List.mem_of_getElem? (i := 63) rfl)) rfl
theorem mw_3_64 : (Jvm.Cond.fieldLink "MazeBoardModel" (36 : Nat) "MazeBoardModel" "afraid" "[Z") ∈ BG := BG_of (mt_3 (List.mem_of_getElem? (i := 64) rfl)) rfl
theorem mw_3_65 : (Jvm.Cond.fieldLink "MazeBoardModel" (40 : Nat) "MazeBoardModel" "resting" "[I") ∈ BG := BG_of (mt_3 (List.mem_of_getElem? (i := 65) rfl)) rfl
theorem mw_3_66 : (Jvm.Cond.fieldLink "MazeBoardModel" (43 : Nat) "MazeBoardModel" "leaving" "[Z") ∈ BG := BG_of (mt_3 (List.mem_of_getElem? (i := 66) rfl)) rfl
theorem mw_3_67 : (Jvm.Cond.fieldLink "MazeBoardModel" (46 : Nat) "MazeBoardModel" "columnThen" "[I") ∈ BG := BG_of (mt_3 (List.mem_of_getElem? (i := 67) rfl)) rfl
theorem mw_3_68 : (Jvm.Cond.fieldLink "MazeBoardModel" (49 : Nat) "MazeBoardModel" "rowThen" "[I") ∈ BG := BG_of (mt_3 (List.mem_of_getElem? (i := 68) rfl)) rfl
theorem mw_3_69 : (Jvm.Cond.fieldLink "MazeBoardModel" (52 : Nat) "MazeBoardModel" "accumulator" "[I") ∈ BG := BG_of (mt_3 (List.mem_of_getElem? (i := 69) rfl)) rfl
theorem mw_3_70 : (Jvm.Cond.fieldLink "MazeBoardModel" (55 : Nat) "MazeBoardModel" "pitch" "[I") ∈ BG := BG_of (mt_3 (List.mem_of_getElem? (i := 70) rfl)) rfl
theorem mw_3_71 : (Jvm.Cond.fieldLink "MazeBoardModel" (58 : Nat) "MazeBoardModel" "volume" "[F") ∈ BG := BG_of (mt_3 (List.mem_of_getElem? (i := 71) rfl)) rfl
theorem mw_3_72 : (Jvm.Cond.fieldLink "MazeBoardModel" (127 : Nat) "MazeBoardModel" "ate" "Z") ∈ BG := BG_of (mt_3 (List.mem_of_getElem? (i := 72) rfl)) rfl
theorem mw_3_73 : (Jvm.Cond.fieldLink "MazeBoardModel" (136 : Nat) "MazeBoardModel" "feast" "Z") ∈ BG := BG_of (mt_3 (List.mem_of_getElem? (i := 73) rfl)) rfl
theorem mw_3_74 : (Jvm.Cond.fieldLink "MazeBoardModel" (170 : Nat) "MazeBoardModel" "died" "Z") ∈ BG := BG_of (mt_3 (List.mem_of_getElem? (i := 74) rfl)) rfl
theorem mw_3_75 : (Jvm.Cond.laysFinal "MazeBoardModel" "MazeBoardModel" "plan" "[I") ∈ BG := BG_of (mt_3 (List.mem_of_getElem? (i := 75) rfl)) rfl
theorem mw_3_77 : (Jvm.Cond.laysFinal "MazeBoardModel" "MazeBoardModel" "cells" "[I") ∈ BG := BG_of (mt_3 (List.mem_of_getElem? (i := 77) rfl)) rfl
theorem mw_3_79 : (Jvm.Cond.lays "MazeBoardModel" "MazeBoardModel" "coins" "I") ∈ BG := BG_of (mt_3 (List.mem_of_getElem? (i := 79) rfl)) rfl
theorem mw_3_81 : (Jvm.Cond.lays "MazeBoardModel" "MazeBoardModel" "game" "Z") ∈ BG := BG_of (mt_3 (List.mem_of_getElem? (i := 81) rfl)) rfl
theorem mw_3_83 : (Jvm.Cond.lays "MazeBoardModel" "MazeBoardModel" "score" "I") ∈ BG := BG_of (mt_3 (List.mem_of_getElem? (i := 83) rfl)) rfl
theorem mw_3_85 : (Jvm.Cond.lays "MazeBoardModel" "MazeBoardModel" "best" "I") ∈ BG := BG_of (mt_3 (List.mem_of_getElem? (i := 85) rfl)) rfl
theorem mw_3_87 : (Jvm.Cond.lays "MazeBoardModel" "MazeBoardModel" "bonus" "Z") ∈ BG := BG_of (mt_3 (List.mem_of_getElem? (i := 87) rfl)) rfl
theorem mw_3_89 : (Jvm.Cond.lays "MazeBoardModel" "MazeBoardModel" "lives" "I") ∈ BG := BG_of (mt_3 (List.mem_of_getElem? (i := 89) rfl)) rfl
theorem mw_3_91 : (Jvm.Cond.lays "MazeBoardModel" "MazeBoardModel" "level" "I") ∈ BG := BG_of (mt_3 (List.mem_of_getElem? (i := 91) rfl)) rfl
theorem mw_3_93 : (Jvm.Cond.lays "MazeBoardModel" "MazeBoardModel" "fright" "I") ∈ BG := BG_of (mt_3 (List.mem_of_getElem? (i := 93) rfl)) rfl
theorem mw_3_95 : (Jvm.Cond.lays "MazeBoardModel" "MazeBoardModel" "time" "I") ∈ BG := BG_of (mt_3 (List.mem_of_getElem? (i := 95) rfl)) rfl
theorem mw_3_97 : (Jvm.Cond.lays "MazeBoardModel" "MazeBoardModel" "chain" "I") ∈ BG := BG_of (mt_3 (List.mem_of_getElem? (i := 97) rfl)) rfl
theorem mw_3_99 : (Jvm.Cond.lays "MazeBoardModel" "MazeBoardModel" "watch" "I") ∈ BG := BG_of (mt_3 (List.mem_of_getElem? (i := 99) rfl)) rfl
theorem mw_3_101 : (Jvm.Cond.lays "MazeBoardModel" "MazeBoardModel" "count" "I") ∈ BG := BG_of (mt_3 (List.mem_of_getElem? (i := 101) rfl)) rfl
theorem mw_3_103 : (Jvm.Cond.lays "MazeBoardModel" "MazeBoardModel" "draws" "I") ∈ BG := BG_of (mt_3 (List.mem_of_getElem? (i := 103) rfl)) rfl
theorem mw_3_105 : (Jvm.Cond.lays "MazeBoardModel" "MazeBoardModel" "stick" "I") ∈ BG := BG_of (mt_3 (List.mem_of_getElem? (i := 105) rfl)) rfl
theorem mw_3_107 : (Jvm.Cond.laysFinal "MazeBoardModel" "MazeBoardModel" "column" "[I") ∈ BG := BG_of (mt_3 (List.mem_of_getElem? (i := 107) rfl)) rfl
theorem mw_3_109 : (Jvm.Cond.laysFinal "MazeBoardModel" "MazeBoardModel" "row" "[I") ∈ BG := BG_of (mt_3 (List.mem_of_getElem? (i := 109) rfl)) rfl
theorem mw_3_111 : (Jvm.Cond.laysFinal "MazeBoardModel" "MazeBoardModel" "direction" "[I") ∈ BG := BG_of (mt_3 (List.mem_of_getElem? (i := 111) rfl)) rfl
theorem mw_3_113 : (Jvm.Cond.laysFinal "MazeBoardModel" "MazeBoardModel" "progress" "[F") ∈ BG := BG_of (mt_3 (List.mem_of_getElem? (i := 113) rfl)) rfl
theorem mw_3_115 : (Jvm.Cond.laysFinal "MazeBoardModel" "MazeBoardModel" "afraid" "[Z") ∈ BG := BG_of (mt_3 (List.mem_of_getElem? (i := 115) rfl)) rfl
theorem mw_3_117 : (Jvm.Cond.laysFinal "MazeBoardModel" "MazeBoardModel" "resting" "[I") ∈ BG := BG_of (mt_3 (List.mem_of_getElem? (i := 117) rfl)) rfl
theorem mw_3_119 : (Jvm.Cond.laysFinal "MazeBoardModel" "MazeBoardModel" "leaving" "[Z") ∈ BG := BG_of (mt_3 (List.mem_of_getElem? (i := 119) rfl)) rfl
theorem mw_3_121 : (Jvm.Cond.laysFinal "MazeBoardModel" "MazeBoardModel" "columnThen" "[I") ∈ BG := BG_of (mt_3 (List.mem_of_getElem? (i := 121) rfl)) rfl
theorem mw_3_123 : (Jvm.Cond.laysFinal "MazeBoardModel" "MazeBoardModel" "rowThen" "[I") ∈ BG := BG_of (mt_3 (List.mem_of_getElem? (i := 123) rfl)) rfl
theorem mw_3_125 : (Jvm.Cond.laysFinal "MazeBoardModel" "MazeBoardModel" "accumulator" "[I") ∈ BG := BG_of (mt_3 (List.mem_of_getElem? (i := 125) rfl)) rfl
theorem mw_3_127 : (Jvm.Cond.laysFinal "MazeBoardModel" "MazeBoardModel" "pitch" "[I") ∈ BG := BG_of (mt_3 (List.mem_of_getElem? (i := 127) rfl)) rfl
theorem mw_3_129 : (Jvm.Cond.laysFinal "MazeBoardModel" "MazeBoardModel" "volume" "[F") ∈ BG := BG_of (mt_3 (List.mem_of_getElem? (i := 129) rfl)) rfl
theorem mw_3_131 : (Jvm.Cond.lays "MazeBoardModel" "MazeBoardModel" "ate" "Z") ∈ BG := BG_of (mt_3 (List.mem_of_getElem? (i := 131) rfl)) rfl
theorem mw_3_133 : (Jvm.Cond.lays "MazeBoardModel" "MazeBoardModel" "feast" "Z") ∈ BG := BG_of (mt_3 (List.mem_of_getElem? (i := 133) rfl)) rfl
theorem mw_3_135 : (Jvm.Cond.lays "MazeBoardModel" "MazeBoardModel" "died" "Z") ∈ BG := BG_of (mt_3 (List.mem_of_getElem? (i := 135) rfl)) rfl
theorem mw_3_138 : (Jvm.Cond.arrayClass Jvm.ClassFile.FieldType.int) ∈ BG := BG_of (mt_3 (List.mem_of_getElem? (i := 138) rfl)) rfl
theorem mw_3_139 : (Jvm.Cond.arrayClass Jvm.ClassFile.FieldType.float) ∈ BG := BG_of (mt_3 (List.mem_of_getElem? (i := 139) rfl)) rfl
theorem mw_3_140 : (Jvm.Cond.arrayClass Jvm.ClassFile.FieldType.boolean) ∈ BG := BG_of (mt_3 (List.mem_of_getElem? (i := 140) rfl)) rfl
theorem mw_3_141 : (Jvm.Cond.methodLink "MazeBoardLaw" (17 : Nat) ({ cls := "MazeBoardModel", name := "coin", desc := "()Z" } : Jvm.MethodName)) ∈ BG := BG_of (mt_3 (List.mem_of_getElem? (i := 141) rfl)) rfl
theorem mw_3_142 : (Jvm.Cond.instanceMethod ({ cls := "MazeBoardModel", name := "coin", desc := "()Z" } : Jvm.MethodName)) ∈ BG := BG_of (mt_3 (List.mem_of_getElem? (i := 142) rfl)) rfl
theorem mw_3_143 : (Jvm.Cond.selects "MazeBoardModel" ({ cls := "MazeBoardModel", name := "coin", desc := "()Z" } : Jvm.MethodName) ({ cls := "MazeBoardModel", name := "coin", desc := "()Z" } : Jvm.MethodName)) ∈ BG := BG_of (mt_3 (List.mem_of_getElem? (i := 143) rfl)) rfl
theorem mw_3_144 : (Jvm.Cond.code ({ cls := "MazeBoardModel", name := "coin", desc := "()Z" } : Jvm.MethodName) prog_9_method_34_code (1 : Nat) (Option.some Jvm.ClassFile.FieldType.boolean)) ∈ BG := BG_of (mt_3 (List.mem_of_getElem? (i := 144) rfl)) rfl
theorem mw_3_145 : (Jvm.Cond.methodLink "MazeBoardLaw" (21 : Nat) ({ cls := "MazeBoardModel", name := "start", desc := "()Z" } : Jvm.MethodName)) ∈ BG := BG_of (mt_3 (List.mem_of_getElem? (i := 145) rfl)) rfl
theorem mw_3_146 : (Jvm.Cond.instanceMethod ({ cls := "MazeBoardModel", name := "start", desc := "()Z" } : Jvm.MethodName)) ∈ BG := BG_of (mt_3 (List.mem_of_getElem? (i := 146) rfl)) rfl
theorem mw_3_147 : (Jvm.Cond.selects "MazeBoardModel" ({ cls := "MazeBoardModel", name := "start", desc := "()Z" } : Jvm.MethodName) ({ cls := "MazeBoardModel", name := "start", desc := "()Z" } : Jvm.MethodName)) ∈ BG := BG_of (mt_3 (List.mem_of_getElem? (i := 147) rfl)) rfl
theorem mw_3_148 : (Jvm.Cond.code ({ cls := "MazeBoardModel", name := "start", desc := "()Z" } : Jvm.MethodName) prog_9_method_35_code (1 : Nat) (Option.some Jvm.ClassFile.FieldType.boolean)) ∈ BG := BG_of (mt_3 (List.mem_of_getElem? (i := 148) rfl)) rfl
theorem mw_3_149 : (Jvm.Cond.methodLink "MazeBoardLaw" (26 : Nat) ({ cls := "MazeBoardModel", name := "stick", desc := "(I)Z" } : Jvm.MethodName)) ∈ BG := BG_of (mt_3 (List.mem_of_getElem? (i := 149) rfl)) rfl
theorem mw_3_150 : (Jvm.Cond.instanceMethod ({ cls := "MazeBoardModel", name := "stick", desc := "(I)Z" } : Jvm.MethodName)) ∈ BG := BG_of (mt_3 (List.mem_of_getElem? (i := 150) rfl)) rfl
theorem mw_3_151 : (Jvm.Cond.selects "MazeBoardModel" ({ cls := "MazeBoardModel", name := "stick", desc := "(I)Z" } : Jvm.MethodName) ({ cls := "MazeBoardModel", name := "stick", desc := "(I)Z" } : Jvm.MethodName)) ∈ BG := BG_of (mt_3 (List.mem_of_getElem? (i := 151) rfl)) rfl
theorem mw_3_152 : (Jvm.Cond.code ({ cls := "MazeBoardModel", name := "stick", desc := "(I)Z" } : Jvm.MethodName) prog_9_method_36_code (2 : Nat) (Option.some Jvm.ClassFile.FieldType.boolean)) ∈ BG := BG_of (mt_3 (List.mem_of_getElem? (i := 152) rfl)) rfl
theorem mw_3_153 : (Jvm.Cond.methodLink "MazeBoardLaw" (30 : Nat) ({ cls := "MazeBoardModel", name := "kick", desc := "()V" } : Jvm.MethodName)) ∈ BG := BG_of (mt_3 (List.mem_of_getElem? (i := 153) rfl)) rfl
theorem mw_3_154 : (Jvm.Cond.instanceMethod ({ cls := "MazeBoardModel", name := "kick", desc := "()V" } : Jvm.MethodName)) ∈ BG := BG_of (mt_3 (List.mem_of_getElem? (i := 154) rfl)) rfl
theorem mw_3_155 : (Jvm.Cond.selects "MazeBoardModel" ({ cls := "MazeBoardModel", name := "kick", desc := "()V" } : Jvm.MethodName) ({ cls := "MazeBoardModel", name := "kick", desc := "()V" } : Jvm.MethodName)) ∈ BG := BG_of (mt_3 (List.mem_of_getElem? (i := 155) rfl)) rfl
theorem mw_3_156 : (Jvm.Cond.code ({ cls := "MazeBoardModel", name := "kick", desc := "()V" } : Jvm.MethodName) prog_9_method_37_code (1 : Nat) (Option.none : Option Jvm.ClassFile.FieldType)) ∈ BG := BG_of (mt_3 (List.mem_of_getElem? (i := 156) rfl)) rfl
theorem mw_3_157 : (Jvm.Cond.methodLink "MazeBoardLaw" (35 : Nat) ({ cls := "MazeBoardModel", name := "frames", desc := "(I)I" } : Jvm.MethodName)) ∈ BG := BG_of (mt_3 (List.mem_of_getElem? (i := 157) rfl)) rfl
theorem mw_3_158 : (Jvm.Cond.instanceMethod ({ cls := "MazeBoardModel", name := "frames", desc := "(I)I" } : Jvm.MethodName)) ∈ BG := BG_of (mt_3 (List.mem_of_getElem? (i := 158) rfl)) rfl
theorem mw_3_159 : (Jvm.Cond.selects "MazeBoardModel" ({ cls := "MazeBoardModel", name := "frames", desc := "(I)I" } : Jvm.MethodName) ({ cls := "MazeBoardModel", name := "frames", desc := "(I)I" } : Jvm.MethodName)) ∈ BG := BG_of (mt_3 (List.mem_of_getElem? (i := 159) rfl)) rfl
theorem mw_3_160 : (Jvm.Cond.code ({ cls := "MazeBoardModel", name := "frames", desc := "(I)I" } : Jvm.MethodName) prog_9_method_38_code (3 : Nat) (Option.some Jvm.ClassFile.FieldType.int)) ∈ BG := BG_of (mt_3 (List.mem_of_getElem? (i := 160) rfl)) rfl
theorem mw_3_161 : (Jvm.Cond.methodLink "MazeBoardModel" (220 : Nat) ({ cls := "MazeBoardModel", name := "frame", desc := "()V" } : Jvm.MethodName)) ∈ BG := BG_of (mt_3 (List.mem_of_getElem? (i := 161) rfl)) rfl
theorem mw_3_163 : (Jvm.Cond.instanceMethod ({ cls := "MazeBoardModel", name := "frame", desc := "()V" } : Jvm.MethodName)) ∈ BG := BG_of (mt_3 (List.mem_of_getElem? (i := 163) rfl)) rfl
theorem mw_3_164 : (Jvm.Cond.code ({ cls := "MazeBoardModel", name := "frame", desc := "()V" } : Jvm.MethodName) prog_9_method_32_code (1 : Nat) (Option.none : Option Jvm.ClassFile.FieldType)) ∈ BG := BG_of (mt_3 (List.mem_of_getElem? (i := 164) rfl)) rfl
theorem mw_3_165 : (Jvm.Cond.methodLink "MazeBoardModel" (202 : Nat) ({ cls := "MazeBoardModel", name := "play", desc := "()V" } : Jvm.MethodName)) ∈ BG := BG_of (mt_3 (List.mem_of_getElem? (i := 165) rfl)) rfl
theorem mw_3_167 : (Jvm.Cond.instanceMethod ({ cls := "MazeBoardModel", name := "play", desc := "()V" } : Jvm.MethodName)) ∈ BG := BG_of (mt_3 (List.mem_of_getElem? (i := 167) rfl)) rfl
theorem mw_3_168 : (Jvm.Cond.code ({ cls := "MazeBoardModel", name := "play", desc := "()V" } : Jvm.MethodName) prog_9_method_29_code (2 : Nat) (Option.none : Option Jvm.ClassFile.FieldType)) ∈ BG := BG_of (mt_3 (List.mem_of_getElem? (i := 168) rfl)) rfl
theorem mw_3_169 : (Jvm.Cond.methodLink "MazeBoardModel" (180 : Nat) ({ cls := "MazeBoardModel", name := "calm", desc := "()V" } : Jvm.MethodName)) ∈ BG := BG_of (mt_3 (List.mem_of_getElem? (i := 169) rfl)) rfl
theorem mw_3_171 : (Jvm.Cond.instanceMethod ({ cls := "MazeBoardModel", name := "calm", desc := "()V" } : Jvm.MethodName)) ∈ BG := BG_of (mt_3 (List.mem_of_getElem? (i := 171) rfl)) rfl
theorem mw_3_172 : (Jvm.Cond.code ({ cls := "MazeBoardModel", name := "calm", desc := "()V" } : Jvm.MethodName) prog_9_method_16_code (2 : Nat) (Option.none : Option Jvm.ClassFile.FieldType)) ∈ BG := BG_of (mt_3 (List.mem_of_getElem? (i := 172) rfl)) rfl
theorem mw_3_173 : (Jvm.Cond.methodLink "MazeBoardModel" (183 : Nat) ({ cls := "MazeBoardModel", name := "player", desc := "()V" } : Jvm.MethodName)) ∈ BG := BG_of (mt_3 (List.mem_of_getElem? (i := 173) rfl)) rfl
theorem mw_3_175 : (Jvm.Cond.instanceMethod ({ cls := "MazeBoardModel", name := "player", desc := "()V" } : Jvm.MethodName)) ∈ BG := BG_of (mt_3 (List.mem_of_getElem? (i := 175) rfl)) rfl
theorem mw_3_176 : (Jvm.Cond.code ({ cls := "MazeBoardModel", name := "player", desc := "()V" } : Jvm.MethodName) prog_9_method_17_code (4 : Nat) (Option.none : Option Jvm.ClassFile.FieldType)) ∈ BG := BG_of (mt_3 (List.mem_of_getElem? (i := 176) rfl)) rfl
theorem mw_3_177 : (Jvm.Cond.methodLink "MazeBoardModel" (114 : Nat) ({ cls := "MazeBoardModel", name := "open", desc := "(II)Z" } : Jvm.MethodName)) ∈ BG := BG_of (mt_3 (List.mem_of_getElem? (i := 177) rfl)) rfl
theorem mw_3_179 : (Jvm.Cond.instanceMethod ({ cls := "MazeBoardModel", name := "open", desc := "(II)Z" } : Jvm.MethodName)) ∈ BG := BG_of (mt_3 (List.mem_of_getElem? (i := 179) rfl)) rfl
theorem mw_3_180 : (Jvm.Cond.code ({ cls := "MazeBoardModel", name := "open", desc := "(II)Z" } : Jvm.MethodName) prog_9_method_12_code (5 : Nat) (Option.some Jvm.ClassFile.FieldType.boolean)) ∈ BG := BG_of (mt_3 (List.mem_of_getElem? (i := 180) rfl)) rfl
theorem mw_3_181 : (Jvm.Cond.methodLink "MazeBoardModel" (94 : Nat) ({ cls := "MazeBoardModel", name := "nextRow", desc := "(II)I" } : Jvm.MethodName)) ∈ BG := BG_of (mt_3 (List.mem_of_getElem? (i := 181) rfl)) rfl
theorem mw_3_183 : (Jvm.Cond.instanceMethod ({ cls := "MazeBoardModel", name := "nextRow", desc := "(II)I" } : Jvm.MethodName)) ∈ BG := BG_of (mt_3 (List.mem_of_getElem? (i := 183) rfl)) rfl
theorem mw_3_184 : (Jvm.Cond.code ({ cls := "MazeBoardModel", name := "nextRow", desc := "(II)I" } : Jvm.MethodName) prog_9_method_11_code (3 : Nat) (Option.some Jvm.ClassFile.FieldType.int)) ∈ BG := BG_of (mt_3 (List.mem_of_getElem? (i := 184) rfl)) rfl
theorem mw_3_185 : (Jvm.Cond.methodLink "MazeBoardModel" (91 : Nat) ({ cls := "MazeBoardModel", name := "down", desc := "(I)I" } : Jvm.MethodName)) ∈ BG := BG_of (mt_3 (List.mem_of_getElem? (i := 185) rfl)) rfl
theorem mw_3_186 : (Jvm.Cond.static ({ cls := "MazeBoardModel", name := "down", desc := "(I)I" } : Jvm.MethodName)) ∈ BG := BG_of (mt_3 (List.mem_of_getElem? (i := 186) rfl)) rfl
theorem mw_3_187 : (Jvm.Cond.code ({ cls := "MazeBoardModel", name := "down", desc := "(I)I" } : Jvm.MethodName) prog_9_method_8_code (1 : Nat) (Option.some Jvm.ClassFile.FieldType.int)) ∈ BG := BG_of (mt_3 (List.mem_of_getElem? (i := 187) rfl)) rfl
theorem mw_3_188 : (Jvm.Cond.methodLink "MazeBoardModel" (98 : Nat) ({ cls := "MazeBoardModel", name := "nextColumn", desc := "(II)I" } : Jvm.MethodName)) ∈ BG := BG_of (mt_3 (List.mem_of_getElem? (i := 188) rfl)) rfl
theorem mw_3_190 : (Jvm.Cond.instanceMethod ({ cls := "MazeBoardModel", name := "nextColumn", desc := "(II)I" } : Jvm.MethodName)) ∈ BG := BG_of (mt_3 (List.mem_of_getElem? (i := 190) rfl)) rfl
theorem mw_3_191 : (Jvm.Cond.code ({ cls := "MazeBoardModel", name := "nextColumn", desc := "(II)I" } : Jvm.MethodName) prog_9_method_10_code (3 : Nat) (Option.some Jvm.ClassFile.FieldType.int)) ∈ BG := BG_of (mt_3 (List.mem_of_getElem? (i := 191) rfl)) rfl
theorem mw_3_192 : (Jvm.Cond.methodLink "MazeBoardModel" (84 : Nat) ({ cls := "MazeBoardModel", name := "across", desc := "(I)I" } : Jvm.MethodName)) ∈ BG := BG_of (mt_3 (List.mem_of_getElem? (i := 192) rfl)) rfl
theorem mw_3_193 : (Jvm.Cond.static ({ cls := "MazeBoardModel", name := "across", desc := "(I)I" } : Jvm.MethodName)) ∈ BG := BG_of (mt_3 (List.mem_of_getElem? (i := 193) rfl)) rfl
theorem mw_3_194 : (Jvm.Cond.code ({ cls := "MazeBoardModel", name := "across", desc := "(I)I" } : Jvm.MethodName) prog_9_method_7_code (1 : Nat) (Option.some Jvm.ClassFile.FieldType.int)) ∈ BG := BG_of (mt_3 (List.mem_of_getElem? (i := 194) rfl)) rfl
theorem mw_3_195 : (Jvm.Cond.methodLink "MazeBoardModel" (88 : Nat) ({ cls := "MazeBoardModel", name := "around", desc := "(I)I" } : Jvm.MethodName)) ∈ BG := BG_of (mt_3 (List.mem_of_getElem? (i := 195) rfl)) rfl
theorem mw_3_196 : (Jvm.Cond.static ({ cls := "MazeBoardModel", name := "around", desc := "(I)I" } : Jvm.MethodName)) ∈ BG := BG_of (mt_3 (List.mem_of_getElem? (i := 196) rfl)) rfl
theorem mw_3_197 : (Jvm.Cond.code ({ cls := "MazeBoardModel", name := "around", desc := "(I)I" } : Jvm.MethodName) prog_9_method_9_code (1 : Nat) (Option.some Jvm.ClassFile.FieldType.int)) ∈ BG := BG_of (mt_3 (List.mem_of_getElem? (i := 197) rfl)) rfl
theorem mw_3_198 : (Jvm.Cond.constantFloat "MazeBoardModel" (121 : Nat) (1045220557 : UInt32)) ∈ BG := BG_of (mt_3 (List.mem_of_getElem? (i := 198) rfl)) rfl
theorem mw_3_199 : (Jvm.Cond.constantFloat "MazeBoardModel" (122 : Nat) (1028443341 : UInt32)) ∈ BG := BG_of (mt_3 (List.mem_of_getElem? (i := 199) rfl)) rfl
theorem mw_3_200 : (Jvm.Cond.methodLink "MazeBoardModel" (123 : Nat) ({ cls := "MazeBoardModel", name := "step", desc := "(I)V" } : Jvm.MethodName)) ∈ BG := BG_of (mt_3 (List.mem_of_getElem? (i := 200) rfl)) rfl
theorem mw_3_202 : (Jvm.Cond.instanceMethod ({ cls := "MazeBoardModel", name := "step", desc := "(I)V" } : Jvm.MethodName)) ∈ BG := BG_of (mt_3 (List.mem_of_getElem? (i := 202) rfl)) rfl
theorem mw_3_203 : (Jvm.Cond.code ({ cls := "MazeBoardModel", name := "step", desc := "(I)V" } : Jvm.MethodName) prog_9_method_13_code (3 : Nat) (Option.none : Option Jvm.ClassFile.FieldType)) ∈ BG := BG_of (mt_3 (List.mem_of_getElem? (i := 203) rfl)) rfl
theorem mw_3_204 : (Jvm.Cond.methodLink "MazeBoardModel" (130 : Nat) ({ cls := "MazeBoardModel", name := "points", desc := "(I)V" } : Jvm.MethodName)) ∈ BG := BG_of (mt_3 (List.mem_of_getElem? (i := 204) rfl)) rfl
theorem mw_3_206 : (Jvm.Cond.instanceMethod ({ cls := "MazeBoardModel", name := "points", desc := "(I)V" } : Jvm.MethodName)) ∈ BG := BG_of (mt_3 (List.mem_of_getElem? (i := 206) rfl)) rfl
theorem mw_3_207 : (Jvm.Cond.code ({ cls := "MazeBoardModel", name := "points", desc := "(I)V" } : Jvm.MethodName) prog_9_method_14_code (2 : Nat) (Option.none : Option Jvm.ClassFile.FieldType)) ∈ BG := BG_of (mt_3 (List.mem_of_getElem? (i := 207) rfl)) rfl
theorem mw_3_208 : (Jvm.Cond.methodLink "MazeBoardModel" (133 : Nat) ({ cls := "MazeBoardModel", name := "scare", desc := "()V" } : Jvm.MethodName)) ∈ BG := BG_of (mt_3 (List.mem_of_getElem? (i := 208) rfl)) rfl
theorem mw_3_210 : (Jvm.Cond.instanceMethod ({ cls := "MazeBoardModel", name := "scare", desc := "()V" } : Jvm.MethodName)) ∈ BG := BG_of (mt_3 (List.mem_of_getElem? (i := 210) rfl)) rfl
theorem mw_3_211 : (Jvm.Cond.code ({ cls := "MazeBoardModel", name := "scare", desc := "()V" } : Jvm.MethodName) prog_9_method_18_code (3 : Nat) (Option.none : Option Jvm.ClassFile.FieldType)) ∈ BG := BG_of (mt_3 (List.mem_of_getElem? (i := 211) rfl)) rfl
theorem mw_3_212 : (Jvm.Cond.methodLink "MazeBoardModel" (186 : Nat) ({ cls := "MazeBoardModel", name := "hunter", desc := "(I)V" } : Jvm.MethodName)) ∈ BG := BG_of (mt_3 (List.mem_of_getElem? (i := 212) rfl)) rfl
theorem mw_3_214 : (Jvm.Cond.instanceMethod ({ cls := "MazeBoardModel", name := "hunter", desc := "(I)V" } : Jvm.MethodName)) ∈ BG := BG_of (mt_3 (List.mem_of_getElem? (i := 214) rfl)) rfl
theorem mw_3_215 : (Jvm.Cond.code ({ cls := "MazeBoardModel", name := "hunter", desc := "(I)V" } : Jvm.MethodName) prog_9_method_19_code (4 : Nat) (Option.none : Option Jvm.ClassFile.FieldType)) ∈ BG := BG_of (mt_3 (List.mem_of_getElem? (i := 215) rfl)) rfl
theorem mw_3_216 : (Jvm.Cond.methodLink "MazeBoardModel" (142 : Nat) ({ cls := "MazeBoardModel", name := "choose", desc := "(I)V" } : Jvm.MethodName)) ∈ BG := BG_of (mt_3 (List.mem_of_getElem? (i := 216) rfl)) rfl
theorem mw_3_218 : (Jvm.Cond.instanceMethod ({ cls := "MazeBoardModel", name := "choose", desc := "(I)V" } : Jvm.MethodName)) ∈ BG := BG_of (mt_3 (List.mem_of_getElem? (i := 218) rfl)) rfl
theorem mw_3_219 : (Jvm.Cond.code ({ cls := "MazeBoardModel", name := "choose", desc := "(I)V" } : Jvm.MethodName) prog_9_method_23_code (12 : Nat) (Option.none : Option Jvm.ClassFile.FieldType)) ∈ BG := BG_of (mt_3 (List.mem_of_getElem? (i := 219) rfl)) rfl
theorem mw_3_220 : (Jvm.Cond.methodLink "MazeBoardModel" (147 : Nat) ({ cls := "MazeBoardModel", name := "drawn", desc := "()I" } : Jvm.MethodName)) ∈ BG := BG_of (mt_3 (List.mem_of_getElem? (i := 220) rfl)) rfl
theorem mw_3_222 : (Jvm.Cond.instanceMethod ({ cls := "MazeBoardModel", name := "drawn", desc := "()I" } : Jvm.MethodName)) ∈ BG := BG_of (mt_3 (List.mem_of_getElem? (i := 222) rfl)) rfl
theorem mw_3_223 : (Jvm.Cond.code ({ cls := "MazeBoardModel", name := "drawn", desc := "()I" } : Jvm.MethodName) prog_9_method_24_code (1 : Nat) (Option.some Jvm.ClassFile.FieldType.int)) ∈ BG := BG_of (mt_3 (List.mem_of_getElem? (i := 223) rfl)) rfl
theorem mw_3_224 : (Jvm.Cond.constant "MazeBoardModel" (159 : Nat) (1103515245 : Int32)) ∈ BG := BG_of (mt_3 (List.mem_of_getElem? (i := 224) rfl)) rfl
theorem mw_3_225 : (Jvm.Cond.methodLink "MazeBoardModel" (151 : Nat) ({ cls := "MazeBoardModel", name := "aim", desc := "(IZ)I" } : Jvm.MethodName)) ∈ BG := BG_of (mt_3 (List.mem_of_getElem? (i := 225) rfl)) rfl
theorem mw_3_227 : (Jvm.Cond.instanceMethod ({ cls := "MazeBoardModel", name := "aim", desc := "(IZ)I" } : Jvm.MethodName)) ∈ BG := BG_of (mt_3 (List.mem_of_getElem? (i := 227) rfl)) rfl
theorem mw_3_228 : (Jvm.Cond.code ({ cls := "MazeBoardModel", name := "aim", desc := "(IZ)I" } : Jvm.MethodName) prog_9_method_25_code (6 : Nat) (Option.some Jvm.ClassFile.FieldType.int)) ∈ BG := BG_of (mt_3 (List.mem_of_getElem? (i := 228) rfl)) rfl
theorem mw_3_229 : (Jvm.Cond.methodLink "MazeBoardModel" (160 : Nat) ({ cls := "MazeBoardModel", name := "cornerColumn", desc := "(I)I" } : Jvm.MethodName)) ∈ BG := BG_of (mt_3 (List.mem_of_getElem? (i := 229) rfl)) rfl
theorem mw_3_230 : (Jvm.Cond.static ({ cls := "MazeBoardModel", name := "cornerColumn", desc := "(I)I" } : Jvm.MethodName)) ∈ BG := BG_of (mt_3 (List.mem_of_getElem? (i := 230) rfl)) rfl
theorem mw_3_231 : (Jvm.Cond.code ({ cls := "MazeBoardModel", name := "cornerColumn", desc := "(I)I" } : Jvm.MethodName) prog_9_method_21_code (1 : Nat) (Option.some Jvm.ClassFile.FieldType.int)) ∈ BG := BG_of (mt_3 (List.mem_of_getElem? (i := 231) rfl)) rfl
theorem mw_3_232 : (Jvm.Cond.methodLink "MazeBoardModel" (163 : Nat) ({ cls := "MazeBoardModel", name := "cornerRow", desc := "(I)I" } : Jvm.MethodName)) ∈ BG := BG_of (mt_3 (List.mem_of_getElem? (i := 232) rfl)) rfl
theorem mw_3_233 : (Jvm.Cond.static ({ cls := "MazeBoardModel", name := "cornerRow", desc := "(I)I" } : Jvm.MethodName)) ∈ BG := BG_of (mt_3 (List.mem_of_getElem? (i := 233) rfl)) rfl
theorem mw_3_234 : (Jvm.Cond.code ({ cls := "MazeBoardModel", name := "cornerRow", desc := "(I)I" } : Jvm.MethodName) prog_9_method_22_code (1 : Nat) (Option.some Jvm.ClassFile.FieldType.int)) ∈ BG := BG_of (mt_3 (List.mem_of_getElem? (i := 234) rfl)) rfl
theorem mw_3_235 : (Jvm.Cond.methodLink "MazeBoardModel" (166 : Nat) ({ cls := "MazeBoardModel", name := "scatters", desc := "()Z" } : Jvm.MethodName)) ∈ BG := BG_of (mt_3 (List.mem_of_getElem? (i := 235) rfl)) rfl
theorem mw_3_237 : (Jvm.Cond.instanceMethod ({ cls := "MazeBoardModel", name := "scatters", desc := "()Z" } : Jvm.MethodName)) ∈ BG := BG_of (mt_3 (List.mem_of_getElem? (i := 237) rfl)) rfl
theorem mw_3_238 : (Jvm.Cond.code ({ cls := "MazeBoardModel", name := "scatters", desc := "()Z" } : Jvm.MethodName) prog_9_method_15_code (1 : Nat) (Option.some Jvm.ClassFile.FieldType.boolean)) ∈ BG := BG_of (mt_3 (List.mem_of_getElem? (i := 238) rfl)) rfl
theorem mw_3_239 : (Jvm.Cond.methodLink "MazeBoardModel" (155 : Nat) ({ cls := "MazeBoardModel", name := "distance", desc := "(IIII)I" } : Jvm.MethodName)) ∈ BG := BG_of (mt_3 (List.mem_of_getElem? (i := 239) rfl)) rfl
theorem mw_4_0 : (Jvm.Cond.static ({ cls := "MazeBoardModel", name := "distance", desc := "(IIII)I" } : Jvm.MethodName)) ∈ BG := BG_of (mt_4 (List.mem_of_getElem? (i := 0) rfl)) rfl
theorem mw_4_1 : (Jvm.Cond.code ({ cls := "MazeBoardModel", name := "distance", desc := "(IIII)I" } : Jvm.MethodName) prog_9_method_20_code (4 : Nat) (Option.some Jvm.ClassFile.FieldType.int)) ∈ BG := BG_of (mt_4 (List.mem_of_getElem? (i := 1) rfl)) rfl
theorem mw_4_2 : (Jvm.Cond.constantFloat "MazeBoardModel" (145 : Nat) (1044549468 : UInt32)) ∈ BG := BG_of (mt_4 (List.mem_of_getElem? (i := 2) rfl)) rfl
theorem mw_4_3 : (Jvm.Cond.constantFloat "MazeBoardModel" (146 : Nat) (1025758986 : UInt32)) ∈ BG := BG_of (mt_4 (List.mem_of_getElem? (i := 3) rfl)) rfl
theorem mw_4_4 : (Jvm.Cond.methodLink "MazeBoardModel" (189 : Nat) ({ cls := "MazeBoardModel", name := "meet", desc := "()V" } : Jvm.MethodName)) ∈ BG := BG_of (mt_4 (List.mem_of_getElem? (i := 4) rfl)) rfl
theorem mw_4_6 : (Jvm.Cond.instanceMethod ({ cls := "MazeBoardModel", name := "meet", desc := "()V" } : Jvm.MethodName)) ∈ BG := BG_of (mt_4 (List.mem_of_getElem? (i := 6) rfl)) rfl
theorem mw_4_7 : (Jvm.Cond.code ({ cls := "MazeBoardModel", name := "meet", desc := "()V" } : Jvm.MethodName) prog_9_method_27_code (2 : Nat) (Option.none : Option Jvm.ClassFile.FieldType)) ∈ BG := BG_of (mt_4 (List.mem_of_getElem? (i := 7) rfl)) rfl
theorem mw_4_8 : (Jvm.Cond.methodLink "MazeBoardModel" (173 : Nat) ({ cls := "MazeBoardModel", name := "met", desc := "(I)Z" } : Jvm.MethodName)) ∈ BG := BG_of (mt_4 (List.mem_of_getElem? (i := 8) rfl)) rfl
theorem mw_4_10 : (Jvm.Cond.instanceMethod ({ cls := "MazeBoardModel", name := "met", desc := "(I)Z" } : Jvm.MethodName)) ∈ BG := BG_of (mt_4 (List.mem_of_getElem? (i := 10) rfl)) rfl
theorem mw_4_11 : (Jvm.Cond.code ({ cls := "MazeBoardModel", name := "met", desc := "(I)Z" } : Jvm.MethodName) prog_9_method_26_code (4 : Nat) (Option.some Jvm.ClassFile.FieldType.boolean)) ∈ BG := BG_of (mt_4 (List.mem_of_getElem? (i := 11) rfl)) rfl
theorem mw_4_12 : (Jvm.Cond.methodLink "MazeBoardModel" (192 : Nat) ({ cls := "MazeBoardModel", name := "left", desc := "()I" } : Jvm.MethodName)) ∈ BG := BG_of (mt_4 (List.mem_of_getElem? (i := 12) rfl)) rfl
theorem mw_4_14 : (Jvm.Cond.instanceMethod ({ cls := "MazeBoardModel", name := "left", desc := "()I" } : Jvm.MethodName)) ∈ BG := BG_of (mt_4 (List.mem_of_getElem? (i := 14) rfl)) rfl
theorem mw_4_15 : (Jvm.Cond.code ({ cls := "MazeBoardModel", name := "left", desc := "()I" } : Jvm.MethodName) prog_9_method_28_code (3 : Nat) (Option.some Jvm.ClassFile.FieldType.int)) ∈ BG := BG_of (mt_4 (List.mem_of_getElem? (i := 15) rfl)) rfl
theorem mw_4_16 : (Jvm.Cond.methodLink "MazeBoardModel" (205 : Nat) ({ cls := "MazeBoardModel", name := "hear", desc := "()V" } : Jvm.MethodName)) ∈ BG := BG_of (mt_4 (List.mem_of_getElem? (i := 16) rfl)) rfl
theorem mw_4_18 : (Jvm.Cond.instanceMethod ({ cls := "MazeBoardModel", name := "hear", desc := "()V" } : Jvm.MethodName)) ∈ BG := BG_of (mt_4 (List.mem_of_getElem? (i := 18) rfl)) rfl
theorem mw_4_19 : (Jvm.Cond.code ({ cls := "MazeBoardModel", name := "hear", desc := "()V" } : Jvm.MethodName) prog_9_method_31_code (2 : Nat) (Option.none : Option Jvm.ClassFile.FieldType)) ∈ BG := BG_of (mt_4 (List.mem_of_getElem? (i := 19) rfl)) rfl
theorem mw_4_20 : (Jvm.Cond.constantFloat "MazeBoardModel" (195 : Nat) (1063675494 : UInt32)) ∈ BG := BG_of (mt_4 (List.mem_of_getElem? (i := 20) rfl)) rfl
theorem mw_4_21 : (Jvm.Cond.methodLink "MazeBoardModel" (196 : Nat) ({ cls := "MazeBoardModel", name := "voice", desc := "(IFI)V" } : Jvm.MethodName)) ∈ BG := BG_of (mt_4 (List.mem_of_getElem? (i := 21) rfl)) rfl
theorem mw_4_23 : (Jvm.Cond.instanceMethod ({ cls := "MazeBoardModel", name := "voice", desc := "(IFI)V" } : Jvm.MethodName)) ∈ BG := BG_of (mt_4 (List.mem_of_getElem? (i := 23) rfl)) rfl
theorem mw_4_24 : (Jvm.Cond.code ({ cls := "MazeBoardModel", name := "voice", desc := "(IFI)V" } : Jvm.MethodName) prog_9_method_30_code (4 : Nat) (Option.none : Option Jvm.ClassFile.FieldType)) ∈ BG := BG_of (mt_4 (List.mem_of_getElem? (i := 24) rfl)) rfl
theorem mw_4_25 : (Jvm.Cond.constantFloat "MazeBoardModel" (200 : Nat) (1056964608 : UInt32)) ∈ BG := BG_of (mt_4 (List.mem_of_getElem? (i := 25) rfl)) rfl
theorem mw_4_26 : (Jvm.Cond.constantFloat "MazeBoardModel" (201 : Nat) (1069547520 : UInt32)) ∈ BG := BG_of (mt_4 (List.mem_of_getElem? (i := 26) rfl)) rfl
theorem mw_4_27 : (Jvm.Cond.methodLink "MazeBoardModel" (214 : Nat) ({ cls := "MazeBoardModel", name := "reset", desc := "()V" } : Jvm.MethodName)) ∈ BG := BG_of (mt_4 (List.mem_of_getElem? (i := 27) rfl)) rfl
theorem mw_4_29 : (Jvm.Cond.instanceMethod ({ cls := "MazeBoardModel", name := "reset", desc := "()V" } : Jvm.MethodName)) ∈ BG := BG_of (mt_4 (List.mem_of_getElem? (i := 29) rfl)) rfl
theorem mw_4_30 : (Jvm.Cond.code ({ cls := "MazeBoardModel", name := "reset", desc := "()V" } : Jvm.MethodName) prog_9_method_33_code (2 : Nat) (Option.none : Option Jvm.ClassFile.FieldType)) ∈ BG := BG_of (mt_4 (List.mem_of_getElem? (i := 30) rfl)) rfl
theorem mw_4_31 : (Jvm.Cond.methodLink "MazeBoardLaw" (39 : Nat) ({ cls := "MazeBoardModel", name := "look", desc := "(I)I" } : Jvm.MethodName)) ∈ BG := BG_of (mt_4 (List.mem_of_getElem? (i := 31) rfl)) rfl
theorem mw_4_32 : (Jvm.Cond.instanceMethod ({ cls := "MazeBoardModel", name := "look", desc := "(I)I" } : Jvm.MethodName)) ∈ BG := BG_of (mt_4 (List.mem_of_getElem? (i := 32) rfl)) rfl
theorem mw_4_33 : (Jvm.Cond.selects "MazeBoardModel" ({ cls := "MazeBoardModel", name := "look", desc := "(I)I" } : Jvm.MethodName) ({ cls := "MazeBoardModel", name := "look", desc := "(I)I" } : Jvm.MethodName)) ∈ BG := BG_of (mt_4 (List.mem_of_getElem? (i := 33) rfl)) rfl
theorem mw_4_34 : (Jvm.Cond.code ({ cls := "MazeBoardModel", name := "look", desc := "(I)I" } : Jvm.MethodName) prog_9_method_39_code (2 : Nat) (Option.some Jvm.ClassFile.FieldType.int)) ∈ BG := BG_of (mt_4 (List.mem_of_getElem? (i := 34) rfl)) rfl
theorem mw_4_35 : (Jvm.Cond.methodLink "MazeBoardLaw" (44 : Nat) ({ cls := "MazeBoardModel", name := "actor", desc := "(II)I" } : Jvm.MethodName)) ∈ BG := BG_of (mt_4 (List.mem_of_getElem? (i := 35) rfl)) rfl
theorem mw_4_36 : (Jvm.Cond.instanceMethod ({ cls := "MazeBoardModel", name := "actor", desc := "(II)I" } : Jvm.MethodName)) ∈ BG := BG_of (mt_4 (List.mem_of_getElem? (i := 36) rfl)) rfl
theorem mw_4_37 : (Jvm.Cond.selects "MazeBoardModel" ({ cls := "MazeBoardModel", name := "actor", desc := "(II)I" } : Jvm.MethodName) ({ cls := "MazeBoardModel", name := "actor", desc := "(II)I" } : Jvm.MethodName)) ∈ BG := BG_of (mt_4 (List.mem_of_getElem? (i := 37) rfl)) rfl
theorem mw_4_38 : (Jvm.Cond.code ({ cls := "MazeBoardModel", name := "actor", desc := "(II)I" } : Jvm.MethodName) prog_9_method_40_code (3 : Nat) (Option.some Jvm.ClassFile.FieldType.int)) ∈ BG := BG_of (mt_4 (List.mem_of_getElem? (i := 38) rfl)) rfl
theorem mw_4_39 : (Jvm.Cond.methodLink "MazeBoardLaw" (49 : Nat) ({ cls := "MazeBoardModel", name := "progress", desc := "(I)F" } : Jvm.MethodName)) ∈ BG := BG_of (mt_4 (List.mem_of_getElem? (i := 39) rfl)) rfl
theorem mw_4_40 : (Jvm.Cond.instanceMethod ({ cls := "MazeBoardModel", name := "progress", desc := "(I)F" } : Jvm.MethodName)) ∈ BG := BG_of (mt_4 (List.mem_of_getElem? (i := 40) rfl)) rfl
theorem mw_4_41 : (Jvm.Cond.selects "MazeBoardModel" ({ cls := "MazeBoardModel", name := "progress", desc := "(I)F" } : Jvm.MethodName) ({ cls := "MazeBoardModel", name := "progress", desc := "(I)F" } : Jvm.MethodName)) ∈ BG := BG_of (mt_4 (List.mem_of_getElem? (i := 41) rfl)) rfl
theorem mw_4_42 : (Jvm.Cond.code ({ cls := "MazeBoardModel", name := "progress", desc := "(I)F" } : Jvm.MethodName) prog_9_method_41_code (2 : Nat) (Option.some Jvm.ClassFile.FieldType.float)) ∈ BG := BG_of (mt_4 (List.mem_of_getElem? (i := 42) rfl)) rfl
theorem mw_4_43 : (Jvm.Cond.methodLink "MazeBoardLaw" (53 : Nat) ({ cls := "MazeBoardModel", name := "cell", desc := "(II)I" } : Jvm.MethodName)) ∈ BG := BG_of (mt_4 (List.mem_of_getElem? (i := 43) rfl)) rfl
theorem mw_4_44 : (Jvm.Cond.instanceMethod ({ cls := "MazeBoardModel", name := "cell", desc := "(II)I" } : Jvm.MethodName)) ∈ BG := BG_of (mt_4 (List.mem_of_getElem? (i := 44) rfl)) rfl
theorem mw_4_45 : (Jvm.Cond.selects "MazeBoardModel" ({ cls := "MazeBoardModel", name := "cell", desc := "(II)I" } : Jvm.MethodName) ({ cls := "MazeBoardModel", name := "cell", desc := "(II)I" } : Jvm.MethodName)) ∈ BG := BG_of (mt_4 (List.mem_of_getElem? (i := 45) rfl)) rfl
theorem mw_4_46 : (Jvm.Cond.code ({ cls := "MazeBoardModel", name := "cell", desc := "(II)I" } : Jvm.MethodName) prog_9_method_42_code (3 : Nat) (Option.some Jvm.ClassFile.FieldType.int)) ∈ BG := BG_of (mt_4 (List.mem_of_getElem? (i := 46) rfl)) rfl
theorem mw_4_47 : (Jvm.Cond.methodLink "MazeBoardLaw" (57 : Nat) ({ cls := "MazeBoardModel", name := "point", desc := "(II)I" } : Jvm.MethodName)) ∈ BG := BG_of (mt_4 (List.mem_of_getElem? (i := 47) rfl)) rfl
theorem mw_4_48 : (Jvm.Cond.instanceMethod ({ cls := "MazeBoardModel", name := "point", desc := "(II)I" } : Jvm.MethodName)) ∈ BG := BG_of (mt_4 (List.mem_of_getElem? (i := 48) rfl)) rfl
theorem mw_4_49 : (Jvm.Cond.selects "MazeBoardModel" ({ cls := "MazeBoardModel", name := "point", desc := "(II)I" } : Jvm.MethodName) ({ cls := "MazeBoardModel", name := "point", desc := "(II)I" } : Jvm.MethodName)) ∈ BG := BG_of (mt_4 (List.mem_of_getElem? (i := 49) rfl)) rfl
theorem mw_4_50 : (Jvm.Cond.code ({ cls := "MazeBoardModel", name := "point", desc := "(II)I" } : Jvm.MethodName) prog_9_method_44_code (6 : Nat) (Option.some Jvm.ClassFile.FieldType.int)) ∈ BG := BG_of (mt_4 (List.mem_of_getElem? (i := 50) rfl)) rfl
theorem mw_4_51 : (Jvm.Cond.methodLink "MazeBoardModel" (224 : Nat) ({ cls := "MazeBoardModel", name := "sprite", desc := "(III)I" } : Jvm.MethodName)) ∈ BG := BG_of (mt_4 (List.mem_of_getElem? (i := 51) rfl)) rfl
theorem mw_4_53 : (Jvm.Cond.instanceMethod ({ cls := "MazeBoardModel", name := "sprite", desc := "(III)I" } : Jvm.MethodName)) ∈ BG := BG_of (mt_4 (List.mem_of_getElem? (i := 53) rfl)) rfl
theorem mw_4_54 : (Jvm.Cond.code ({ cls := "MazeBoardModel", name := "sprite", desc := "(III)I" } : Jvm.MethodName) prog_9_method_43_code (13 : Nat) (Option.some Jvm.ClassFile.FieldType.int)) ∈ BG := BG_of (mt_4 (List.mem_of_getElem? (i := 54) rfl)) rfl
theorem mw_4_55 : (Jvm.Cond.constantFloat "MazeBoardModel" (223 : Nat) (1082130432 : UInt32)) ∈ BG := BG_of (mt_4 (List.mem_of_getElem? (i := 55) rfl)) rfl
theorem mw_4_56 : (Jvm.Cond.methodLink "MazeBoardLaw" (61 : Nat) ({ cls := "MazeBoardModel", name := "volume", desc := "(I)F" } : Jvm.MethodName)) ∈ BG := BG_of (mt_4 (List.mem_of_getElem? (i := 56) rfl)) rfl
theorem mw_4_57 : (Jvm.Cond.instanceMethod ({ cls := "MazeBoardModel", name := "volume", desc := "(I)F" } : Jvm.MethodName)) ∈ BG := BG_of (mt_4 (List.mem_of_getElem? (i := 57) rfl)) rfl
theorem mw_4_58 : (Jvm.Cond.selects "MazeBoardModel" ({ cls := "MazeBoardModel", name := "volume", desc := "(I)F" } : Jvm.MethodName) ({ cls := "MazeBoardModel", name := "volume", desc := "(I)F" } : Jvm.MethodName)) ∈ BG := BG_of (mt_4 (List.mem_of_getElem? (i := 58) rfl)) rfl
theorem mw_4_59 : (Jvm.Cond.code ({ cls := "MazeBoardModel", name := "volume", desc := "(I)F" } : Jvm.MethodName) prog_9_method_45_code (2 : Nat) (Option.some Jvm.ClassFile.FieldType.float)) ∈ BG := BG_of (mt_4 (List.mem_of_getElem? (i := 59) rfl)) rfl
theorem mw_4_60 : (Jvm.Cond.methodLink "MazeBoardLaw" (66 : Nat) ({ cls := "MazeBoardModel", name := "sound", desc := "()F" } : Jvm.MethodName)) ∈ BG := BG_of (mt_4 (List.mem_of_getElem? (i := 60) rfl)) rfl
theorem mw_4_61 : (Jvm.Cond.instanceMethod ({ cls := "MazeBoardModel", name := "sound", desc := "()F" } : Jvm.MethodName)) ∈ BG := BG_of (mt_4 (List.mem_of_getElem? (i := 61) rfl)) rfl
theorem mw_4_62 : (Jvm.Cond.selects "MazeBoardModel" ({ cls := "MazeBoardModel", name := "sound", desc := "()F" } : Jvm.MethodName) ({ cls := "MazeBoardModel", name := "sound", desc := "()F" } : Jvm.MethodName)) ∈ BG := BG_of (mt_4 (List.mem_of_getElem? (i := 62) rfl)) rfl
theorem mw_4_63 : (Jvm.Cond.code ({ cls := "MazeBoardModel", name := "sound", desc := "()F" } : Jvm.MethodName) prog_9_method_46_code (3 : Nat) (Option.some Jvm.ClassFile.FieldType.float)) ∈ BG := BG_of (mt_4 (List.mem_of_getElem? (i := 63) rfl)) rfl
theorem mw_4_64 : (Jvm.Cond.constantFloat "MazeBoardModel" (228 : Nat) (1089470464 : UInt32)) ∈ BG := BG_of (mt_4 (List.mem_of_getElem? (i := 64) rfl)) rfl
theorem mw_0_0 : Cond.selects "MazeBoard$Game" ⟨"MazeBoard$Game", "setUp", "()V"⟩ ⟨"MazeBoard$Game", "setUp", "()V"⟩ ∈ BG := BG_of (mt_0 (List.mem_of_getElem? (i := 0) rfl)) rfl
theorem mw_0_1 : Cond.selects "MazeBoard$Game" ⟨"MazeBoard$Game", "placeActors", "()V"⟩ ⟨"MazeBoard$Game", "placeActors", "()V"⟩ ∈ BG := BG_of (mt_0 (List.mem_of_getElem? (i := 1) rfl)) rfl
theorem mw_0_2 : Cond.selects "MazeBoard$Game" ⟨"MazeBoard$Game", "passTime", "()V"⟩ ⟨"MazeBoard$Game", "passTime", "()V"⟩ ∈ BG := BG_of (mt_0 (List.mem_of_getElem? (i := 2) rfl)) rfl
theorem mw_0_3 : Cond.selects "MazeBoard$Game" ⟨"MazeBoard$Game", "movePlayer", "(I)Z"⟩ ⟨"MazeBoard$Game", "movePlayer", "(I)Z"⟩ ∈ BG := BG_of (mt_0 (List.mem_of_getElem? (i := 3) rfl)) rfl
theorem mw_0_4 : Cond.selects "MazeBoard$Game" ⟨"MazeBoard$Game", "isStickOpen", "(I)Z"⟩ ⟨"MazeBoard$Game", "isStickOpen", "(I)Z"⟩ ∈ BG := BG_of (mt_0 (List.mem_of_getElem? (i := 4) rfl)) rfl
theorem mw_0_5 : Cond.selects "MazeBoard$Game" ⟨"MazeBoard$Game", "eatHere", "()V"⟩ ⟨"MazeBoard$Game", "eatHere", "()V"⟩ ∈ BG := BG_of (mt_0 (List.mem_of_getElem? (i := 5) rfl)) rfl
theorem mw_0_6 : Cond.selects "MazeBoard$Game" ⟨"MazeBoard$Game", "addPoints", "(I)V"⟩ ⟨"MazeBoard$Game", "addPoints", "(I)V"⟩ ∈ BG := BG_of (mt_0 (List.mem_of_getElem? (i := 6) rfl)) rfl
theorem mw_0_7 : Cond.selects "MazeBoard$Game" ⟨"MazeBoard$Game", "frightenHunters", "()V"⟩ ⟨"MazeBoard$Game", "frightenHunters", "()V"⟩ ∈ BG := BG_of (mt_0 (List.mem_of_getElem? (i := 7) rfl)) rfl
theorem mw_0_8 : Cond.selects "MazeBoard$Game" ⟨"MazeBoard$Game", "turnAbout", "(LMazeBoard$Actor;)V"⟩ ⟨"MazeBoard$Game", "turnAbout", "(LMazeBoard$Actor;)V"⟩ ∈ BG := BG_of (mt_0 (List.mem_of_getElem? (i := 8) rfl)) rfl
theorem mw_0_9 : Cond.selects "MazeBoard$Game" ⟨"MazeBoard$Game", "moveHunter", "(I)V"⟩ ⟨"MazeBoard$Game", "moveHunter", "(I)V"⟩ ∈ BG := BG_of (mt_0 (List.mem_of_getElem? (i := 9) rfl)) rfl
theorem mw_0_10 : Cond.selects "MazeBoard$Game" ⟨"MazeBoard$Game", "chooseDirection", "(LMazeBoard$Actor;I)V"⟩ ⟨"MazeBoard$Game", "chooseDirection", "(LMazeBoard$Actor;I)V"⟩ ∈ BG := BG_of (mt_0 (List.mem_of_getElem? (i := 10) rfl)) rfl
theorem mw_0_11 : Cond.selects "MazeBoard$Game" ⟨"MazeBoard$Game", "drawNumber", "()I"⟩ ⟨"MazeBoard$Game", "drawNumber", "()I"⟩ ∈ BG := BG_of (mt_0 (List.mem_of_getElem? (i := 11) rfl)) rfl
theorem mw_0_12 : Cond.selects "MazeBoard$Game" ⟨"MazeBoard$Game", "firstOpenFrom", "(ILMazeBoard$Actor;)I"⟩ ⟨"MazeBoard$Game", "firstOpenFrom", "(ILMazeBoard$Actor;)I"⟩ ∈ BG := BG_of (mt_0 (List.mem_of_getElem? (i := 12) rfl)) rfl
theorem mw_0_13 : Cond.selects "MazeBoard$Game" ⟨"MazeBoard$Game", "setAim", "(LMazeBoard$Actor;I)V"⟩ ⟨"MazeBoard$Game", "setAim", "(LMazeBoard$Actor;I)V"⟩ ∈ BG := BG_of (mt_0 (List.mem_of_getElem? (i := 13) rfl)) rfl
theorem mw_0_14 : Cond.selects "MazeBoard$Game" ⟨"MazeBoard$Game", "isScatter", "()Z"⟩ ⟨"MazeBoard$Game", "isScatter", "()Z"⟩ ∈ BG := BG_of (mt_0 (List.mem_of_getElem? (i := 14) rfl)) rfl
theorem mw_0_15 : Cond.selects "MazeBoard$Game" ⟨"MazeBoard$Game", "isNearPlayer", "(LMazeBoard$Actor;)Z"⟩ ⟨"MazeBoard$Game", "isNearPlayer", "(LMazeBoard$Actor;)Z"⟩ ∈ BG := BG_of (mt_0 (List.mem_of_getElem? (i := 15) rfl)) rfl
theorem mw_0_16 : Cond.selects "MazeBoard$Game" ⟨"MazeBoard$Game", "aimAtPlayer", "(LMazeBoard$Actor;I)V"⟩ ⟨"MazeBoard$Game", "aimAtPlayer", "(LMazeBoard$Actor;I)V"⟩ ∈ BG := BG_of (mt_0 (List.mem_of_getElem? (i := 16) rfl)) rfl
theorem mw_0_17 : Cond.selects "MazeBoard$Game" ⟨"MazeBoard$Game", "nearestToAim", "(LMazeBoard$Actor;)I"⟩ ⟨"MazeBoard$Game", "nearestToAim", "(LMazeBoard$Actor;)I"⟩ ∈ BG := BG_of (mt_0 (List.mem_of_getElem? (i := 17) rfl)) rfl
theorem mw_0_18 : Cond.selects "MazeBoard$Game" ⟨"MazeBoard$Game", "meetHunters", "()V"⟩ ⟨"MazeBoard$Game", "meetHunters", "()V"⟩ ∈ BG := BG_of (mt_0 (List.mem_of_getElem? (i := 18) rfl)) rfl
theorem mw_0_19 : Cond.selects "MazeBoard$Game" ⟨"MazeBoard$Game", "eatHunter", "(LMazeBoard$Actor;)V"⟩ ⟨"MazeBoard$Game", "eatHunter", "(LMazeBoard$Actor;)V"⟩ ∈ BG := BG_of (mt_0 (List.mem_of_getElem? (i := 19) rfl)) rfl
theorem mw_0_20 : Cond.selects "MazeBoard$Game" ⟨"MazeBoard$Game", "loseLife", "()V"⟩ ⟨"MazeBoard$Game", "loseLife", "()V"⟩ ∈ BG := BG_of (mt_0 (List.mem_of_getElem? (i := 20) rfl)) rfl
theorem mw_0_21 : Cond.selects "MazeBoard" ⟨"MazeBoard", "reset", "()V"⟩ ⟨"MazeBoard", "reset", "()V"⟩ ∈ BG := BG_of (mt_0 (List.mem_of_getElem? (i := 21) rfl)) rfl
theorem mw_0_22 : Cond.selects "MazeBoardModel" ⟨"MazeBoardModel", "draw", "()V"⟩ ⟨"MazeBoardModel", "draw", "()V"⟩ ∈ BG := BG_of (mt_0 (List.mem_of_getElem? (i := 22) rfl)) rfl
theorem mw_0_23 : Cond.selects "MazeBoardModel" ⟨"MazeBoardModel", "both", "(IIII)V"⟩ ⟨"MazeBoardModel", "both", "(IIII)V"⟩ ∈ BG := BG_of (mt_0 (List.mem_of_getElem? (i := 23) rfl)) rfl
theorem mw_0_24 : Cond.selects "MazeBoardModel" ⟨"MazeBoardModel", "fill", "()V"⟩ ⟨"MazeBoardModel", "fill", "()V"⟩ ∈ BG := BG_of (mt_0 (List.mem_of_getElem? (i := 24) rfl)) rfl
theorem mw_0_25 : Cond.selects "MazeBoardModel" ⟨"MazeBoardModel", "place", "()V"⟩ ⟨"MazeBoardModel", "place", "()V"⟩ ∈ BG := BG_of (mt_0 (List.mem_of_getElem? (i := 25) rfl)) rfl
theorem mw_0_26 : Cond.selects "MazeBoardModel" ⟨"MazeBoardModel", "put", "(IIIII)V"⟩ ⟨"MazeBoardModel", "put", "(IIIII)V"⟩ ∈ BG := BG_of (mt_0 (List.mem_of_getElem? (i := 26) rfl)) rfl
theorem mw_0_27 : Cond.selects "MazeBoardModel" ⟨"MazeBoardModel", "frame", "()V"⟩ ⟨"MazeBoardModel", "frame", "()V"⟩ ∈ BG := BG_of (mt_0 (List.mem_of_getElem? (i := 27) rfl)) rfl
theorem mw_0_28 : Cond.selects "MazeBoardModel" ⟨"MazeBoardModel", "play", "()V"⟩ ⟨"MazeBoardModel", "play", "()V"⟩ ∈ BG := BG_of (mt_0 (List.mem_of_getElem? (i := 28) rfl)) rfl
theorem mw_0_29 : Cond.selects "MazeBoardModel" ⟨"MazeBoardModel", "calm", "()V"⟩ ⟨"MazeBoardModel", "calm", "()V"⟩ ∈ BG := BG_of (mt_0 (List.mem_of_getElem? (i := 29) rfl)) rfl
theorem mw_0_30 : Cond.selects "MazeBoardModel" ⟨"MazeBoardModel", "player", "()V"⟩ ⟨"MazeBoardModel", "player", "()V"⟩ ∈ BG := BG_of (mt_0 (List.mem_of_getElem? (i := 30) rfl)) rfl
theorem mw_0_31 : Cond.selects "MazeBoardModel" ⟨"MazeBoardModel", "open", "(II)Z"⟩ ⟨"MazeBoardModel", "open", "(II)Z"⟩ ∈ BG := BG_of (mt_0 (List.mem_of_getElem? (i := 31) rfl)) rfl
theorem mw_0_32 : Cond.selects "MazeBoardModel" ⟨"MazeBoardModel", "nextRow", "(II)I"⟩ ⟨"MazeBoardModel", "nextRow", "(II)I"⟩ ∈ BG := BG_of (mt_0 (List.mem_of_getElem? (i := 32) rfl)) rfl
theorem mw_0_33 : Cond.selects "MazeBoardModel" ⟨"MazeBoardModel", "nextColumn", "(II)I"⟩ ⟨"MazeBoardModel", "nextColumn", "(II)I"⟩ ∈ BG := BG_of (mt_0 (List.mem_of_getElem? (i := 33) rfl)) rfl
theorem mw_0_34 : Cond.selects "MazeBoardModel" ⟨"MazeBoardModel", "step", "(I)V"⟩ ⟨"MazeBoardModel", "step", "(I)V"⟩ ∈ BG := BG_of (mt_0 (List.mem_of_getElem? (i := 34) rfl)) rfl
theorem mw_0_35 : Cond.selects "MazeBoardModel" ⟨"MazeBoardModel", "points", "(I)V"⟩ ⟨"MazeBoardModel", "points", "(I)V"⟩ ∈ BG := BG_of (mt_0 (List.mem_of_getElem? (i := 35) rfl)) rfl
theorem mw_0_36 : Cond.selects "MazeBoardModel" ⟨"MazeBoardModel", "scare", "()V"⟩ ⟨"MazeBoardModel", "scare", "()V"⟩ ∈ BG := BG_of (mt_0 (List.mem_of_getElem? (i := 36) rfl)) rfl
theorem mw_0_37 : Cond.selects "MazeBoardModel" ⟨"MazeBoardModel", "hunter", "(I)V"⟩ ⟨"MazeBoardModel", "hunter", "(I)V"⟩ ∈ BG := BG_of (mt_0 (List.mem_of_getElem? (i := 37) rfl)) rfl
theorem mw_0_38 : Cond.selects "MazeBoardModel" ⟨"MazeBoardModel", "choose", "(I)V"⟩ ⟨"MazeBoardModel", "choose", "(I)V"⟩ ∈ BG := BG_of (mt_0 (List.mem_of_getElem? (i := 38) rfl)) rfl
theorem mw_0_39 : Cond.selects "MazeBoardModel" ⟨"MazeBoardModel", "drawn", "()I"⟩ ⟨"MazeBoardModel", "drawn", "()I"⟩ ∈ BG := BG_of (mt_0 (List.mem_of_getElem? (i := 39) rfl)) rfl
theorem mw_0_40 : Cond.selects "MazeBoardModel" ⟨"MazeBoardModel", "aim", "(IZ)I"⟩ ⟨"MazeBoardModel", "aim", "(IZ)I"⟩ ∈ BG := BG_of (mt_0 (List.mem_of_getElem? (i := 40) rfl)) rfl
theorem mw_0_41 : Cond.selects "MazeBoardModel" ⟨"MazeBoardModel", "scatters", "()Z"⟩ ⟨"MazeBoardModel", "scatters", "()Z"⟩ ∈ BG := BG_of (mt_0 (List.mem_of_getElem? (i := 41) rfl)) rfl
theorem mw_0_42 : Cond.selects "MazeBoardModel" ⟨"MazeBoardModel", "meet", "()V"⟩ ⟨"MazeBoardModel", "meet", "()V"⟩ ∈ BG := BG_of (mt_0 (List.mem_of_getElem? (i := 42) rfl)) rfl
theorem mw_0_43 : Cond.selects "MazeBoardModel" ⟨"MazeBoardModel", "met", "(I)Z"⟩ ⟨"MazeBoardModel", "met", "(I)Z"⟩ ∈ BG := BG_of (mt_0 (List.mem_of_getElem? (i := 43) rfl)) rfl
theorem mw_0_44 : Cond.selects "MazeBoardModel" ⟨"MazeBoardModel", "left", "()I"⟩ ⟨"MazeBoardModel", "left", "()I"⟩ ∈ BG := BG_of (mt_0 (List.mem_of_getElem? (i := 44) rfl)) rfl
theorem mw_0_45 : Cond.selects "MazeBoardModel" ⟨"MazeBoardModel", "hear", "()V"⟩ ⟨"MazeBoardModel", "hear", "()V"⟩ ∈ BG := BG_of (mt_0 (List.mem_of_getElem? (i := 45) rfl)) rfl
theorem mw_0_46 : Cond.selects "MazeBoardModel" ⟨"MazeBoardModel", "voice", "(IFI)V"⟩ ⟨"MazeBoardModel", "voice", "(IFI)V"⟩ ∈ BG := BG_of (mt_0 (List.mem_of_getElem? (i := 46) rfl)) rfl
theorem mw_0_47 : Cond.selects "MazeBoardModel" ⟨"MazeBoardModel", "reset", "()V"⟩ ⟨"MazeBoardModel", "reset", "()V"⟩ ∈ BG := BG_of (mt_0 (List.mem_of_getElem? (i := 47) rfl)) rfl
theorem mw_0_48 : Cond.selects "MazeBoardModel" ⟨"MazeBoardModel", "sprite", "(III)I"⟩ ⟨"MazeBoardModel", "sprite", "(III)I"⟩ ∈ BG := BG_of (mt_0 (List.mem_of_getElem? (i := 48) rfl)) rfl
theorem uw_X0 : ∀ w ∈ wsX00, w ∈ BG := List.forall_mem_cons.mpr ⟨mw_1_82, List.forall_mem_cons.mpr ⟨mw_1_84, List.forall_mem_cons.mpr ⟨mw_1_86, List.forall_mem_cons.mpr ⟨mw_1_88, List.forall_mem_cons.mpr ⟨mw_1_90, List.forall_mem_cons.mpr ⟨mw_1_92, List.forall_mem_cons.mpr ⟨mw_1_94, List.forall_mem_cons.mpr ⟨mw_1_96, List.forall_mem_cons.mpr ⟨mw_1_98, List.forall_mem_cons.mpr ⟨mw_1_100, List.forall_mem_cons.mpr ⟨mw_1_102, fun _ h => absurd h List.not_mem_nil⟩⟩⟩⟩⟩⟩⟩⟩⟩⟩⟩
theorem uw_X1 : ∀ w ∈ wsX10, w ∈ BG := List.forall_mem_cons.mpr ⟨mw_1_157, List.forall_mem_cons.mpr ⟨mw_1_159, List.forall_mem_cons.mpr ⟨mw_1_161, List.forall_mem_cons.mpr ⟨mw_1_163, List.forall_mem_cons.mpr ⟨mw_1_165, List.forall_mem_cons.mpr ⟨mw_1_167, List.forall_mem_cons.mpr ⟨mw_1_169, List.forall_mem_cons.mpr ⟨mw_1_171, List.forall_mem_cons.mpr ⟨mw_1_173, List.forall_mem_cons.mpr ⟨mw_1_175, List.forall_mem_cons.mpr ⟨mw_1_177, List.forall_mem_cons.mpr ⟨mw_1_179, List.forall_mem_cons.mpr ⟨mw_1_181, List.forall_mem_cons.mpr ⟨mw_1_183, List.forall_mem_cons.mpr ⟨mw_1_185, List.forall_mem_cons.mpr ⟨mw_1_187, fun _ h => absurd h List.not_mem_nil⟩⟩⟩⟩⟩⟩⟩⟩⟩⟩⟩⟩⟩⟩⟩⟩
theorem uw_X2 : ∀ w ∈ wsX20, w ∈ BG := List.forall_mem_cons.mpr ⟨mw_1_34, List.forall_mem_cons.mpr ⟨mw_1_36, fun _ h => absurd h List.not_mem_nil⟩⟩
theorem uw_X4 : ∀ w ∈ wsX40, w ∈ BG := List.forall_mem_cons.mpr ⟨mw_1_216, fun _ h => absurd h List.not_mem_nil⟩
theorem uw_X5 : ∀ w ∈ wsX50, w ∈ BG := List.forall_mem_cons.mpr ⟨mw_1_207, List.forall_mem_cons.mpr ⟨mw_1_209, List.forall_mem_cons.mpr ⟨mw_1_211, fun _ h => absurd h List.not_mem_nil⟩⟩⟩
theorem uw_X6 : ∀ w ∈ wsX60, w ∈ BG := List.forall_mem_cons.mpr ⟨mw_1_225, List.forall_mem_cons.mpr ⟨mw_1_227, List.forall_mem_cons.mpr ⟨mw_1_229, List.forall_mem_cons.mpr ⟨mw_1_231, List.forall_mem_cons.mpr ⟨mw_1_233, List.forall_mem_cons.mpr ⟨mw_1_235, fun _ h => absurd h List.not_mem_nil⟩⟩⟩⟩⟩⟩
theorem uw_X7 : ∀ w ∈ wsX70, w ∈ BG := List.forall_mem_cons.mpr ⟨mw_3_75, List.forall_mem_cons.mpr ⟨mw_3_77, List.forall_mem_cons.mpr ⟨mw_3_79, List.forall_mem_cons.mpr ⟨mw_3_81, List.forall_mem_cons.mpr ⟨mw_3_83, List.forall_mem_cons.mpr ⟨mw_3_85, List.forall_mem_cons.mpr ⟨mw_3_87, List.forall_mem_cons.mpr ⟨mw_3_89, List.forall_mem_cons.mpr ⟨mw_3_91, List.forall_mem_cons.mpr ⟨mw_3_93, List.forall_mem_cons.mpr ⟨mw_3_95, List.forall_mem_cons.mpr ⟨mw_3_97, List.forall_mem_cons.mpr ⟨mw_3_99, List.forall_mem_cons.mpr ⟨mw_3_101, List.forall_mem_cons.mpr ⟨mw_3_103, List.forall_mem_cons.mpr ⟨mw_3_105, List.forall_mem_cons.mpr ⟨mw_3_107, List.forall_mem_cons.mpr ⟨mw_3_109, List.forall_mem_cons.mpr ⟨mw_3_111, List.forall_mem_cons.mpr ⟨mw_3_113, List.forall_mem_cons.mpr ⟨mw_3_115, List.forall_mem_cons.mpr ⟨mw_3_117, List.forall_mem_cons.mpr ⟨mw_3_119, List.forall_mem_cons.mpr ⟨mw_3_121, List.forall_mem_cons.mpr ⟨mw_3_123, List.forall_mem_cons.mpr ⟨mw_3_125, List.forall_mem_cons.mpr ⟨mw_3_127, List.forall_mem_cons.mpr ⟨mw_3_129, List.forall_mem_cons.mpr ⟨mw_3_131, List.forall_mem_cons.mpr ⟨mw_3_133, List.forall_mem_cons.mpr ⟨mw_3_135, fun _ h => absurd h List.not_mem_nil⟩⟩⟩⟩⟩⟩⟩⟩⟩⟩⟩⟩⟩⟩⟩⟩⟩⟩⟩⟩⟩⟩⟩⟩⟩⟩⟩⟩⟩⟩⟩
