/-! THE MEMORY: ints and floats by a cell's number and a place in it; the cells' shapes are fixed. -/
abbrev Mem : Type := (Nat → Nat → Int32) × (Nat → Nat → UInt32)
def gI (M : Mem) (c k : Nat) : Int32 := M.1 c k
def gF (M : Mem) (c k : Nat) : UInt32 := M.2 c k
def wI (M : Mem) (c k : Nat) (v : Int32) : Mem := (fun a b => if a = c ∧ b = k then v else M.1 a b, M.2)
def wF (M : Mem) (c k : Nat) (v : UInt32) : Mem := (M.1, fun a b => if a = c ∧ b = k then v else M.2 a b)
theorem gI_wI (M : Mem) (c k : Nat) (v : Int32) (a b : Nat) : gI (wI M c k v) a b = if a = c ∧ b = k then v else gI M a b := rfl
theorem gI_wF (M : Mem) (c k : Nat) (v : UInt32) (a b : Nat) : gI (wF M c k v) a b = gI M a b := rfl
theorem gF_wF (M : Mem) (c k : Nat) (v : UInt32) (a b : Nat) : gF (wF M c k v) a b = if a = c ∧ b = k then v else gF M a b := rfl
theorem gF_wI (M : Mem) (c k : Nat) (v : Int32) (a b : Nat) : gF (wI M c k v) a b = gF M a b := rfl
/-- a cell's shape: (0, its class, its fields), (1, _, length) ints, (2, _, length) floats, (3, _, length) references -/
def sh (c : Nat) : Nat × Nat × Nat := match c with
  | 0 => (0, 5, 6) | 1 => (0, 1, 16) | 2 => (0, 2, 2) | 3 => (1, 0, 117) | 4 => (3, 0, 5)
  | 5 => (0, 0, 11) | 6 => (0, 0, 11) | 7 => (0, 0, 11) | 8 => (0, 0, 11) | 9 => (0, 0, 11)
  | 10 => (0, 3, 1) | 11 => (3, 0, 3) | 12 => (0, 4, 3) | 13 => (0, 4, 3) | 14 => (0, 4, 3)
  | 20 => (0, 6, 31) | 21 => (1, 0, 117) | 22 => (1, 0, 117) | 23 => (1, 0, 5) | 24 => (1, 0, 5) | 25 => (1, 0, 5)
  | 26 => (2, 0, 5) | 27 => (1, 0, 5) | 28 => (1, 0, 5) | 29 => (1, 0, 5) | 30 => (1, 0, 5) | 31 => (1, 0, 5)
  | 32 => (1, 0, 3) | 33 => (1, 0, 3) | 34 => (2, 0, 3) | _ => (9, 0, 0)
/-- what an array cell holds -/
def aty (c : Nat) : FieldType := match c with
  | 3 => .byte | 4 => .object "MazeBoard$Actor" | 11 => .object "MazeBoard$Voice"
  | 26 => .float | 34 => .float | 27 => .boolean | 29 => .boolean | _ => .int
/-- a field's kind: 0 an int, 1 a float, 2 a reference -/
def fty (ci k : Nat) : Nat := match ci with
  | 0 => if k = 3 then 1 else 0
  | 1 => if k < 3 then 2 else 0
  | 2 => if k = 0 then 2 else 0
  | 3 => 2
  | 4 => if k = 2 then 1 else 0
  | 5 => if k < 2 then 2 else 0
  | 6 => if k < 2 then 2 else if 16 ≤ k ∧ k ≤ 27 then 2 else 0
  | _ => 0
/-- who refers to whom, once all is made -/
def R0 (c k : Nat) : Option Nat := match c with
  | 0 => (match k with | 0 => some 1 | 1 => some 10 | _ => none)
  | 1 => (match k with | 0 => some 2 | 1 => some 4 | 2 => some 5 | _ => none)
  | 2 => (match k with | 0 => some 3 | _ => none)
  | 4 => some (5 + k)
  | 10 => (match k with | 0 => some 11 | _ => none)
  | 11 => some (12 + k)
  | 20 => (match k with | 0 => some 21 | 1 => some 22 | 16 => some 23 | 17 => some 24 | 18 => some 25 | 19 => some 26 | 20 => some 27 | 21 => some 28 | 22 => some 29 | 23 => some 30 | 24 => some 31 | 25 => some 32 | 26 => some 33 | 27 => some 34 | _ => none)
  | _ => none
def fv (ad : Nat → Nat) (RR : Nat → Nat → Option Nat) (M : Mem) (c t k : Nat) : Value := match t with
  | 0 => .int (gI M c k)
  | 1 => .float (gF M c k)
  | _ => va_rf ((RR c k).map ad)
def cel (cy ad : Nat → Nat) (RR : Nat → Nat → Option Nat) (M : Mem) (c : Nat) : va_E := match sh c with
  | (0, ci, n) => .inr (ci, (List.range n).map (fun k => fv ad RR M c (fty ci k) k))
  | (1, _, n) => .inl (cy c, n, .inl (fun j => gI M c j))
  | (2, _, n) => .inl (cy c, n, .inr (.inr (.inl (fun j => gF M c j))))
  | (_, _, n) => .inl (cy c, n, .inr (.inr (.inr (.inr (fun j => (RR c j).map ad)))))
/-- the world: the cells numbered in L, at their addresses -/
def wl (cy ad : Nat → Nat) (RR : Nat → Nat → Option Nat) (M : Mem) (L : List Nat) : va_W := L.map (fun c => (ad c, cel cy ad RR M c))
section WL
variable {cy ad : Nat → Nat} {RR RS : Nat → Nat → Option Nat} {M M' : Mem} {L : List Nat} {c ci n t : Nat}
theorem wl_get (h : c ∈ L) : ∃ k : Nat, (wl cy ad RR M L)[k]? = some (ad c, cel cy ad RR M c) := List.getElem?_of_mem (List.mem_map.mpr ⟨c, h, rfl⟩)
theorem cel_obj (h : sh c = (0, ci, n)) : cel cy ad RR M c = .inr (ci, (List.range n).map (fun k => fv ad RR M c (fty ci k) k)) := by unfold cel; rw [h]; rfl
theorem cel_i (h : sh c = (1, t, n)) : cel cy ad RR M c = .inl (cy c, n, .inl (fun j => gI M c j)) := by unfold cel; rw [h]; rfl
theorem cel_f (h : sh c = (2, t, n)) : cel cy ad RR M c = .inl (cy c, n, .inr (.inr (.inl (fun j => gF M c j)))) := by unfold cel; rw [h]; rfl
theorem cel_r (h : sh c = (3, t, n)) : cel cy ad RR M c = .inl (cy c, n, .inr (.inr (.inr (.inr (fun j => (RR c j).map ad))))) := by unfold cel; rw [h]; rfl
theorem cel_congr {a : Nat} (hi : ∀ j, gI M' a j = gI M a j) (hf : ∀ j, gF M' a j = gF M a j) (hr : ∀ j, RS a j = RR a j) : cel cy ad RS M' a = cel cy ad RR M a := by
  have e1 : (fun j => gI M' a j) = (fun j => gI M a j) := funext hi
  have e2 : (fun j => gF M' a j) = (fun j => gF M a j) := funext hf
  have e3 : (fun j => (RS a j).map ad) = (fun j => (RR a j).map ad) := funext fun j => by rw [hr]
  have e4 : ∀ ci : Nat, (fun k => fv ad RS M' a (fty ci k) k) = (fun k => fv ad RR M a (fty ci k) k) := fun ci => funext fun k => by
    unfold fv
    split
    · rw [hi]
    · rw [hf]
    · rw [hr]
  unfold cel
  split
  · rw [e4]
  · rw [e1]
  · rw [e2]
  · rw [e3]
theorem wl_set {A : Nat → Prop} {q : Nat} {E : va_E} (hD : va_D A (wl cy ad RR M L)) (hc : c ∈ L) (hk : (wl cy ad RR M L)[q]? = some (ad c, cel cy ad RR M c)) (he : cel cy ad RS M' c = E) (hn : ∀ a, a ≠ c → cel cy ad RS M' a = cel cy ad RR M a) : (wl cy ad RR M L).set q (ad c, E) = wl cy ad RS M' L := by
  have hl := (List.getElem?_eq_some_iff.mp hk).1
  obtain ⟨i, hi⟩ := List.getElem?_of_mem hc
  have h2 : (wl cy ad RR M L)[i]? = some (ad c, cel cy ad RR M c) := by
    simp only [wl, List.getElem?_map, hi]
    rfl
  have hqi : q = i := hD.1 q i _ _ hk h2 rfl
  subst hqi
  apply List.ext_getElem?
  intro j
  by_cases hj : j = q
  · subst hj
    rw [List.getElem?_set_self hl]
    simp only [wl, List.getElem?_map, hi, ← he]
    rfl
  · rw [List.getElem?_set_ne (Ne.symm hj)]
    simp only [wl, List.getElem?_map]
    cases hb : L[j]? with
    | none => rfl
    | some b =>
      have hbc : b ≠ c := by
        intro hab
        subst hab
        have h3 : (wl cy ad RR M L)[j]? = some (ad b, cel cy ad RR M b) := by
          simp only [wl, List.getElem?_map, hb]
          rfl
        exact hj (hD.1 j q _ _ h3 hk rfl)
      show some (ad b, cel cy ad RR M b) = some (ad b, cel cy ad RS M' b)
      rw [hn b hbc]
theorem range_set {f g : Nat → Value} {N k : Nat} {v : Value} (hk : k < N) (h1 : g k = v) (h2 : ∀ j, j ≠ k → g j = f j) : (List.range N).map g = ((List.range N).map f).set k v := by
  apply List.ext_getElem?
  intro j
  by_cases hj : j = k
  · subst hj
    rw [List.getElem?_set_self (by simpa using hk), List.getElem?_map, List.getElem?_range hk, ← h1]
    rfl
  · rw [List.getElem?_set_ne (Ne.symm hj), List.getElem?_map, List.getElem?_map]
    by_cases hjn : j < N
    · rw [List.getElem?_range hjn]
      show some (g j) = some (f j)
      rw [h2 j hj]
    · rw [List.getElem?_eq_none (by simpa using hjn)]
      rfl
theorem range_at {f : Nat → Value} {N k : Nat} (hk : k < N) : ((List.range N).map f)[k]? = some (f k) := by
  rw [List.getElem?_map, List.getElem?_range hk]
  rfl
end WL
/-- the classes and array classes of the cells in L are as the tables have them -/
def KK (D : va_G) (cy : Nat → Nat) (L : List Nat) (s : State) : Prop := va_K D vwCl [] s ∧ ∀ c ∈ L, (sh c).1 ≠ 0 → va_K D vwCl [(cy c, aty c)] s
theorem KK.moved {D : va_G} {cy : Nat → Nat} {L : List Nat} {u U : State} (hvm : u.vm.Alike U.vm) (h : KK D cy L u) : KK D cy L U := ⟨va_K.moved hvm h.1, fun c hc hs => va_K.moved hvm (h.2 c hc hs)⟩
/-- where a walk stands: the world holds M, its cells are apart and in A, nothing else has changed -/
def Cx (D : va_G) (cy ad : Nat → Nat) (RR : Nat → Nat → Option Nat) (L : List Nat) (A : Nat → Prop) (s : State) (M : Mem) (H : Heap) (locs : List Loc) : Prop := va_P D vwCl (wl cy ad RR M L) H ∧ va_D A (wl cy ad RR M L) ∧ va_S A s.heap H locs
section QR
variable {p : Program} {l : Launch} {e : Env} {R : Room} {s : State} {m : MethodId} {args : Array Value} {below : List Frame} {meth : Method} {c : Code} {H : Heap} {locs : List Loc} {cells slots : Nat} {Q : State → Prop}
variable {cc : ByteArray} {pc : Nat} {ls : Array Slot} {rest : List Value} {D : va_G} {cy ad : Nat → Nat} {RR : Nat → Nat → Option Nat} {M : Mem} {L : List Nat} {A : Nat → Prop}
theorem q_geti (hx : p.tables.exec = Jvm.exec) (hb : c.code = cc) {own C : String} {T : u_T} {N ci index : Nat} {Ts : List Cond} (hts : ∀ w ∈ Ts, w.before args s = true) (hin : ∀ w ∈ u_ws C T N, w ∈ Ts) (hown : s.vm.findClass own = some m.cls) (hK : KK D cy L s) (hC : Cx D cy ad RR L A s M H locs) {id : Nat} (hs : sh id = (0, ci, N)) (hL : id ∈ L) (hc : vwCl[ci]? = some (C, T, N)) (k : Nat) (hk : k < N) (hf : fty ci k = 0) (hlink : (Cond.fieldLink own index (T k).1 (T k).2.1 (T k).2.2.1).before args s = true) (hdg : decode cc pc = .ok (.getfield index, 3))
    (kk : W p l e R s m args below meth c H locs cells slots Q (F0 m (pc + 3) ls (.int (gI M id k) :: rest))) : W p l e R s m args below meth c H locs cells slots Q (F0 m pc ls (.ref (ad id) :: rest)) := by
  obtain ⟨q, hq⟩ := wl_get (cy := cy) (ad := ad) (RR := RR) (M := M) hL
  rw [cel_obj hs] at hq
  exact va_get hx hb hts hin hown hK.1 hC.1 q hq hc k hk hlink (fun _ h => h) (by rw [range_at hk, hf]; rfl) hdg kk
theorem q_getf (hx : p.tables.exec = Jvm.exec) (hb : c.code = cc) {own C : String} {T : u_T} {N ci index : Nat} {Ts : List Cond} (hts : ∀ w ∈ Ts, w.before args s = true) (hin : ∀ w ∈ u_ws C T N, w ∈ Ts) (hown : s.vm.findClass own = some m.cls) (hK : KK D cy L s) (hC : Cx D cy ad RR L A s M H locs) {id : Nat} (hs : sh id = (0, ci, N)) (hL : id ∈ L) (hc : vwCl[ci]? = some (C, T, N)) (k : Nat) (hk : k < N) (hf : fty ci k = 1) (hlink : (Cond.fieldLink own index (T k).1 (T k).2.1 (T k).2.2.1).before args s = true) (hdg : decode cc pc = .ok (.getfield index, 3))
    (kk : W p l e R s m args below meth c H locs cells slots Q (F0 m (pc + 3) ls (.float (gF M id k) :: rest))) : W p l e R s m args below meth c H locs cells slots Q (F0 m pc ls (.ref (ad id) :: rest)) := by
  obtain ⟨q, hq⟩ := wl_get (cy := cy) (ad := ad) (RR := RR) (M := M) hL
  rw [cel_obj hs] at hq
  exact va_get hx hb hts hin hown hK.1 hC.1 q hq hc k hk hlink (fun _ h => h) (by rw [range_at hk, hf]; rfl) hdg kk
theorem q_getr (hx : p.tables.exec = Jvm.exec) (hb : c.code = cc) {own C : String} {T : u_T} {N ci index : Nat} {Ts : List Cond} (hts : ∀ w ∈ Ts, w.before args s = true) (hin : ∀ w ∈ u_ws C T N, w ∈ Ts) (hown : s.vm.findClass own = some m.cls) (hK : KK D cy L s) (hC : Cx D cy ad RR L A s M H locs) {id : Nat} (hs : sh id = (0, ci, N)) (hL : id ∈ L) (hc : vwCl[ci]? = some (C, T, N)) (k : Nat) (hk : k < N) (hf : fty ci k = 2) {j : Nat} (hr : RR id k = some j) (hlink : (Cond.fieldLink own index (T k).1 (T k).2.1 (T k).2.2.1).before args s = true) (hdg : decode cc pc = .ok (.getfield index, 3))
    (kk : W p l e R s m args below meth c H locs cells slots Q (F0 m (pc + 3) ls (.ref (ad j) :: rest))) : W p l e R s m args below meth c H locs cells slots Q (F0 m pc ls (.ref (ad id) :: rest)) := by
  obtain ⟨q, hq⟩ := wl_get (cy := cy) (ad := ad) (RR := RR) (M := M) hL
  rw [cel_obj hs] at hq
  exact va_get hx hb hts hin hown hK.1 hC.1 q hq hc k hk hlink (fun _ h => h) (by rw [range_at hk, hf]; simp only [fv, hr]; rfl) hdg kk
theorem q_puti (hx : p.tables.exec = Jvm.exec) (hb : c.code = cc) {own C : String} {T : u_T} {N ci index : Nat} {Ts : List Cond} (hts : ∀ w ∈ Ts, w.before args s = true) (hin : ∀ w ∈ u_ws C T N, w ∈ Ts) (ty0 : Nat → FieldType) (hty : ∀ k, k < N → parseFieldDescriptor (T k).2.2.1 = some (ty0 k)) (hnm : ∀ a, a < N → ∀ b, b < N → a ≠ b → (T a).2.1 ≠ (T b).2.1) (hown : s.vm.findClass own = some m.cls) (hK : KK D cy L s) (hC : Cx D cy ad RR L A s M H locs) {id : Nat} (hs : sh id = (0, ci, N)) (hL : id ∈ L) (hc : vwCl[ci]? = some (C, T, N)) (k : Nat) (hk : k < N) (hf : fty ci k = 0) (hlink : (Cond.fieldLink own index (T k).1 (T k).2.1 (T k).2.2.1).before args s = true) (hfin : (T k).2.2.2 = false) {ty : FieldType} {v : Int32} (hd : ty0 k = ty) (hn : narrow ty (.int v) = .int v) (hfit : fits ty (.int v) = true) (hdg : decode cc pc = .ok (.putfield index, 3))
    (kk : ∀ (H1 : Heap) (locs1 : List Loc), Cx D cy ad RR L A s (wI M id k v) H1 locs1 → W p l e R s m args below meth c H1 locs1 cells slots Q (F0 m (pc + 3) ls rest)) : W p l e R s m args below meth c H locs cells slots Q (F0 m pc ls (.int v :: .ref (ad id) :: rest)) := by
  obtain ⟨q, hq0⟩ := wl_get (cy := cy) (ad := ad) (RR := RR) (M := M) hL
  have hq := hq0
  rw [cel_obj hs] at hq
  refine va_put hx hb hts hin ty0 hty hnm hown hK.1 hC.1 hC.2.1 hC.2.2 q hq hc k hk hlink (fun _ h => h) hfin (ty := ty) (by rw [← hd]; exact hty k hk) hn hfit (by simpa using hk) hdg (fun H1 locs1 hP hD hS => kk H1 locs1 ?_)
  have e := wl_set (RS := RR) (M' := wI M id k v) hC.2.1 hL hq0 (E := .inr (ci, ((List.range N).map (fun k => fv ad RR M id (fty ci k) k)).set k (.int v))) (by
    rw [cel_obj hs]
    refine congrArg (fun z => Sum.inr (ci, z)) (range_set hk ?_ ?_)
    · rw [hf]
      show Value.int (gI (wI M id k v) id k) = _
      rw [gI_wI, if_pos ⟨rfl, rfl⟩]
    · intro j hj
      unfold fv
      split
      · rw [gI_wI, if_neg (fun z => hj z.2)]
      · rfl
      · rfl) (fun a ha => cel_congr (fun j => by rw [gI_wI, if_neg (fun z => ha z.1)]) (fun j => rfl) (fun j => rfl))
  rw [e] at hP hD
  exact ⟨hP, hD, hS⟩
theorem q_putf (hx : p.tables.exec = Jvm.exec) (hb : c.code = cc) {own C : String} {T : u_T} {N ci index : Nat} {Ts : List Cond} (hts : ∀ w ∈ Ts, w.before args s = true) (hin : ∀ w ∈ u_ws C T N, w ∈ Ts) (ty0 : Nat → FieldType) (hty : ∀ k, k < N → parseFieldDescriptor (T k).2.2.1 = some (ty0 k)) (hnm : ∀ a, a < N → ∀ b, b < N → a ≠ b → (T a).2.1 ≠ (T b).2.1) (hown : s.vm.findClass own = some m.cls) (hK : KK D cy L s) (hC : Cx D cy ad RR L A s M H locs) {id : Nat} (hs : sh id = (0, ci, N)) (hL : id ∈ L) (hc : vwCl[ci]? = some (C, T, N)) (k : Nat) (hk : k < N) (hf : fty ci k = 1) (hlink : (Cond.fieldLink own index (T k).1 (T k).2.1 (T k).2.2.1).before args s = true) (hfin : (T k).2.2.2 = false) {v : UInt32} (hd : ty0 k = .float) (hdg : decode cc pc = .ok (.putfield index, 3))
    (kk : ∀ (H1 : Heap) (locs1 : List Loc), Cx D cy ad RR L A s (wF M id k v) H1 locs1 → W p l e R s m args below meth c H1 locs1 cells slots Q (F0 m (pc + 3) ls rest)) : W p l e R s m args below meth c H locs cells slots Q (F0 m pc ls (.float v :: .ref (ad id) :: rest)) := by
  obtain ⟨q, hq0⟩ := wl_get (cy := cy) (ad := ad) (RR := RR) (M := M) hL
  have hq := hq0
  rw [cel_obj hs] at hq
  refine va_put hx hb hts hin ty0 hty hnm hown hK.1 hC.1 hC.2.1 hC.2.2 q hq hc k hk hlink (fun _ h => h) hfin (ty := .float) (by rw [← hd]; exact hty k hk) rfl rfl (by simpa using hk) hdg (fun H1 locs1 hP hD hS => kk H1 locs1 ?_)
  have e := wl_set (RS := RR) (M' := wF M id k v) hC.2.1 hL hq0 (E := .inr (ci, ((List.range N).map (fun k => fv ad RR M id (fty ci k) k)).set k (.float v))) (by
    rw [cel_obj hs]
    refine congrArg (fun z => Sum.inr (ci, z)) (range_set hk ?_ ?_)
    · rw [hf]
      show Value.float (gF (wF M id k v) id k) = _
      rw [gF_wF, if_pos ⟨rfl, rfl⟩]
    · intro j hj
      unfold fv
      split
      · rfl
      · rw [gF_wF, if_neg (fun z => hj z.2)]
      · rfl) (fun a ha => cel_congr (fun j => rfl) (fun j => by rw [gF_wF, if_neg (fun z => ha z.1)]) (fun j => rfl))
  rw [e] at hP hD
  exact ⟨hP, hD, hS⟩
theorem q_iald (hx : p.tables.exec = Jvm.exec) (hb : c.code = cc) (hK : KK D cy L s) (hC : Cx D cy ad RR L A s M H locs) {id t n : Nat} (hs : sh id = (1, t, n)) (hL : id ∈ L) (ht : aty id = .int) {i : Int32} (hin : vp_in i n) {k : Nat} (hk : i.toNatClampNeg = k) (hdg : decode cc pc = .ok (.iaload, 1))
    (kk : W p l e R s m args below meth c H locs cells slots Q (F0 m (pc + 1) ls (.int (gI M id k) :: rest))) : W p l e R s m args below meth c H locs cells slots Q (F0 m pc ls (.int i :: .ref (ad id) :: rest)) := by
  subst hk
  obtain ⟨q, hq⟩ := wl_get (cy := cy) (ad := ad) (RR := RR) (M := M) hL
  rw [cel_i hs] at hq
  exact va_iald hx hb (hK.2 id hL (by simp [hs])) hC.1 q 0 hq (by rw [ht]; rfl) hin hdg kk
theorem q_bald (hx : p.tables.exec = Jvm.exec) (hb : c.code = cc) (hK : KK D cy L s) (hC : Cx D cy ad RR L A s M H locs) {id t n : Nat} (hs : sh id = (1, t, n)) (hL : id ∈ L) (ht : aty id = .byte) {i : Int32} (hin : vp_in i n) {k : Nat} (hk : i.toNatClampNeg = k) (hdg : decode cc pc = .ok (.baload, 1))
    (kk : W p l e R s m args below meth c H locs cells slots Q (F0 m (pc + 1) ls (.int (gI M id k) :: rest))) : W p l e R s m args below meth c H locs cells slots Q (F0 m pc ls (.int i :: .ref (ad id) :: rest)) := by
  subst hk
  obtain ⟨q, hq⟩ := wl_get (cy := cy) (ad := ad) (RR := RR) (M := M) hL
  rw [cel_i hs] at hq
  exact va_bald hx hb (hK.2 id hL (by simp [hs])) hC.1 q 0 hq (by rw [ht]; rfl) hin hdg kk
theorem q_zald (hx : p.tables.exec = Jvm.exec) (hb : c.code = cc) (hK : KK D cy L s) (hC : Cx D cy ad RR L A s M H locs) {id t n : Nat} (hs : sh id = (1, t, n)) (hL : id ∈ L) (ht : aty id = .boolean) {i : Int32} (hin : vp_in i n) {k : Nat} (hk : i.toNatClampNeg = k) (hdg : decode cc pc = .ok (.baload, 1))
    (kk : W p l e R s m args below meth c H locs cells slots Q (F0 m (pc + 1) ls (.int (gI M id k) :: rest))) : W p l e R s m args below meth c H locs cells slots Q (F0 m pc ls (.int i :: .ref (ad id) :: rest)) := by
  subst hk
  obtain ⟨q, hq⟩ := wl_get (cy := cy) (ad := ad) (RR := RR) (M := M) hL
  rw [cel_i hs] at hq
  exact va_zald hx hb (hK.2 id hL (by simp [hs])) hC.1 q 0 hq (by rw [ht]; rfl) hin hdg kk
theorem q_fald (hx : p.tables.exec = Jvm.exec) (hb : c.code = cc) (hK : KK D cy L s) (hC : Cx D cy ad RR L A s M H locs) {id t n : Nat} (hs : sh id = (2, t, n)) (hL : id ∈ L) (ht : aty id = .float) {i : Int32} (hin : vp_in i n) {k : Nat} (hk : i.toNatClampNeg = k) (hdg : decode cc pc = .ok (.faload, 1))
    (kk : W p l e R s m args below meth c H locs cells slots Q (F0 m (pc + 1) ls (.float (gF M id k) :: rest))) : W p l e R s m args below meth c H locs cells slots Q (F0 m pc ls (.int i :: .ref (ad id) :: rest)) := by
  subst hk
  obtain ⟨q, hq⟩ := wl_get (cy := cy) (ad := ad) (RR := RR) (M := M) hL
  rw [cel_f hs] at hq
  exact va_fald hx hb (hK.2 id hL (by simp [hs])) hC.1 q 0 hq (by rw [ht]; rfl) hin hdg kk
theorem q_aald (hx : p.tables.exec = Jvm.exec) (hb : c.code = cc) (hK : KK D cy L s) (hC : Cx D cy ad RR L A s M H locs) {id t n : Nat} {CA : String} (hs : sh id = (3, t, n)) (hL : id ∈ L) (ht : aty id = .object CA) {i : Int32} {j : Nat} (hin : vp_in i n) (hr : RR id i.toNatClampNeg = some j) (hdg : decode cc pc = .ok (.aaload, 1))
    (kk : W p l e R s m args below meth c H locs cells slots Q (F0 m (pc + 1) ls (.ref (ad j) :: rest))) : W p l e R s m args below meth c H locs cells slots Q (F0 m pc ls (.int i :: .ref (ad id) :: rest)) := by
  obtain ⟨q, hq⟩ := wl_get (cy := cy) (ad := ad) (RR := RR) (M := M) hL
  rw [cel_r hs] at hq
  refine va_aldq hx hb (hK.2 id hL (by simp [hs])) hC.1 q 0 hq (by rw [ht]; rfl) hin hdg ?_
  rw [hr]
  exact kk
theorem Cx.seti {H1 : Heap} {locs1 : List Loc} {id t n q i : Nat} {v : Int32} (hC : Cx D cy ad RR L A s M H locs) (hs : sh id = (1, t, n)) (hL : id ∈ L) (hq0 : (wl cy ad RR M L)[q]? = some (ad id, cel cy ad RR M id)) (hP : va_P D vwCl ((wl cy ad RR M L).set q (ad id, .inl (cy id, n, .inl (upd (fun j => gI M id j) i v)))) H1) (hD : va_D A ((wl cy ad RR M L).set q (ad id, .inl (cy id, n, .inl (upd (fun j => gI M id j) i v))))) (hS : va_S A s.heap H1 locs1) : Cx D cy ad RR L A s (wI M id i v) H1 locs1 := by
  have e := wl_set (RS := RR) (M' := wI M id i v) hC.2.1 hL hq0 (E := .inl (cy id, n, .inl (upd (fun j => gI M id j) i v))) (by
    rw [cel_i hs]
    refine congrArg (fun z => Sum.inl (cy id, n, Sum.inl z)) (funext fun j => ?_)
    rw [gI_wI]
    by_cases hj : j = i
    · rw [if_pos ⟨rfl, hj⟩, hj, pk_us]
    · rw [if_neg (fun z => hj z.2), pk_un hj]) (fun a ha => cel_congr (fun j => by rw [gI_wI, if_neg (fun z => ha z.1)]) (fun j => rfl) (fun j => rfl))
  rw [e] at hP hD
  exact ⟨hP, hD, hS⟩
theorem q_iast (hx : p.tables.exec = Jvm.exec) (hb : c.code = cc) (hK : KK D cy L s) (hC : Cx D cy ad RR L A s M H locs) {id t n : Nat} (hs : sh id = (1, t, n)) (hL : id ∈ L) (ht : aty id = .int) {i x : Int32} (hin : vp_in i n) {k : Nat} (hk : i.toNatClampNeg = k) (hdg : decode cc pc = .ok (.iastore, 1))
    (kk : ∀ (H1 : Heap) (locs1 : List Loc), Cx D cy ad RR L A s (wI M id k x) H1 locs1 → W p l e R s m args below meth c H1 locs1 cells slots Q (F0 m (pc + 1) ls rest)) : W p l e R s m args below meth c H locs cells slots Q (F0 m pc ls (.int x :: .int i :: .ref (ad id) :: rest)) := by
  subst hk
  obtain ⟨q, hq0⟩ := wl_get (cy := cy) (ad := ad) (RR := RR) (M := M) hL
  have hq := hq0
  rw [cel_i hs] at hq
  exact va_iast hx hb (hK.2 id hL (by simp [hs])) hC.1 hC.2.1 hC.2.2 q 0 hq (by rw [ht]; rfl) hin hdg (fun H1 locs1 hP hD hS => kk H1 locs1 (hC.seti hs hL hq0 hP hD hS))
theorem q_bast (hx : p.tables.exec = Jvm.exec) (hb : c.code = cc) (hK : KK D cy L s) (hC : Cx D cy ad RR L A s M H locs) {id t n : Nat} (hs : sh id = (1, t, n)) (hL : id ∈ L) (ht : aty id = .byte) {i x v : Int32} (hin : vp_in i n) {k : Nat} (hk : i.toNatClampNeg = k) (hv : vp_nar .byte x = v) (hdg : decode cc pc = .ok (.bastore, 1))
    (kk : ∀ (H1 : Heap) (locs1 : List Loc), Cx D cy ad RR L A s (wI M id k v) H1 locs1 → W p l e R s m args below meth c H1 locs1 cells slots Q (F0 m (pc + 1) ls rest)) : W p l e R s m args below meth c H locs cells slots Q (F0 m pc ls (.int x :: .int i :: .ref (ad id) :: rest)) := by
  subst hk
  obtain ⟨q, hq0⟩ := wl_get (cy := cy) (ad := ad) (RR := RR) (M := M) hL
  have hq := hq0
  rw [cel_i hs] at hq
  refine va_bast hx hb (hK.2 id hL (by simp [hs])) hC.1 hC.2.1 hC.2.2 q 0 hq (by rw [ht]; rfl) hin hdg (fun H1 locs1 hP hD hS => kk H1 locs1 (hC.seti hs hL hq0 ?_ ?_ hS))
  · rw [← hv]; exact hP
  · rw [← hv]; exact hD
theorem q_zast (hx : p.tables.exec = Jvm.exec) (hb : c.code = cc) (hK : KK D cy L s) (hC : Cx D cy ad RR L A s M H locs) {id t n : Nat} (hs : sh id = (1, t, n)) (hL : id ∈ L) (ht : aty id = .boolean) {i x v : Int32} (hin : vp_in i n) {k : Nat} (hk : i.toNatClampNeg = k) (hv : vp_nar .boolean x = v) (hdg : decode cc pc = .ok (.bastore, 1))
    (kk : ∀ (H1 : Heap) (locs1 : List Loc), Cx D cy ad RR L A s (wI M id k v) H1 locs1 → W p l e R s m args below meth c H1 locs1 cells slots Q (F0 m (pc + 1) ls rest)) : W p l e R s m args below meth c H locs cells slots Q (F0 m pc ls (.int x :: .int i :: .ref (ad id) :: rest)) := by
  subst hk
  obtain ⟨q, hq0⟩ := wl_get (cy := cy) (ad := ad) (RR := RR) (M := M) hL
  have hq := hq0
  rw [cel_i hs] at hq
  refine va_zast hx hb (hK.2 id hL (by simp [hs])) hC.1 hC.2.1 hC.2.2 q 0 hq (by rw [ht]; rfl) hin hdg (fun H1 locs1 hP hD hS => kk H1 locs1 (hC.seti hs hL hq0 ?_ ?_ hS))
  · rw [← hv]; exact hP
  · rw [← hv]; exact hD
theorem q_fast (hx : p.tables.exec = Jvm.exec) (hb : c.code = cc) (hK : KK D cy L s) (hC : Cx D cy ad RR L A s M H locs) {id t n : Nat} (hs : sh id = (2, t, n)) (hL : id ∈ L) (ht : aty id = .float) {i : Int32} {x : UInt32} (hin : vp_in i n) {k : Nat} (hk : i.toNatClampNeg = k) (hdg : decode cc pc = .ok (.fastore, 1))
    (kk : ∀ (H1 : Heap) (locs1 : List Loc), Cx D cy ad RR L A s (wF M id k x) H1 locs1 → W p l e R s m args below meth c H1 locs1 cells slots Q (F0 m (pc + 1) ls rest)) : W p l e R s m args below meth c H locs cells slots Q (F0 m pc ls (.float x :: .int i :: .ref (ad id) :: rest)) := by
  subst hk
  obtain ⟨q, hq0⟩ := wl_get (cy := cy) (ad := ad) (RR := RR) (M := M) hL
  have hq := hq0
  rw [cel_f hs] at hq
  refine va_fast hx hb (hK.2 id hL (by simp [hs])) hC.1 hC.2.1 hC.2.2 q 0 hq (by rw [ht]; rfl) hin hdg (fun H1 locs1 hP hD hS => kk H1 locs1 ?_)
  have e := wl_set (RS := RR) (M' := wF M id i.toNatClampNeg x) hC.2.1 hL hq0 (E := .inl (cy id, n, .inr (.inr (.inl (vf_upd (fun j => gF M id j) i.toNatClampNeg x))))) (by
    rw [cel_f hs]
    refine congrArg (fun z => Sum.inl (cy id, n, Sum.inr (Sum.inr (Sum.inl z)))) (funext fun j => ?_)
    rw [gF_wF]
    by_cases hj : j = i.toNatClampNeg
    · simp [hj, vf_upd]
    · simp [hj, vf_upd]) (fun a ha => cel_congr (fun j => rfl) (fun j => by rw [gF_wF, if_neg (fun z => ha z.1)]) (fun j => rfl))
  rw [e] at hP hD
  exact ⟨hP, hD, hS⟩
theorem q_alen (hx : p.tables.exec = Jvm.exec) (hb : c.code = cc) (hK : KK D cy L s) (hC : Cx D cy ad RR L A s M H locs) {id t n : Nat} (hs : sh id = (1, t, n)) (hL : id ∈ L) {v : Int32} (hv : Int32.ofNat n = v) (hdg : decode cc pc = .ok (.arraylength, 1))
    (kk : W p l e R s m args below meth c H locs cells slots Q (F0 m (pc + 1) ls (.int v :: rest))) : W p l e R s m args below meth c H locs cells slots Q (F0 m pc ls (.ref (ad id) :: rest)) := by
  obtain ⟨q, hq⟩ := wl_get (cy := cy) (ad := ad) (RR := RR) (M := M) hL
  rw [cel_i hs] at hq
  exact va_alen hx hb (hK.2 id hL (by simp [hs])) hC.1 q 0 hq rfl hv hdg kk
end QR
