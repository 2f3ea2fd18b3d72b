/-! THE CLAIM OUT OF ONE WALK OF THE LAW'S BODY. Your part is whole_start (and what it stands on); all else here is the same for every law, but numbers. -/
def R_law : String := "MazeBoardLaw"
def lw_P (b : Addr) (xs : List Int32) (args : Array Value) (s : State) : Prop := args = #[.ref b] ∧ s.IntsAt b xs ∧ xs.length ≤ 1536 ∧ (Jvm.Cond.and given_1 narrow_1).before args s = true
def lw_Q (_ : Array Value) (s : State) (o : Outcome) (t : State) : Prop := o = .returned (some (.int 1)) ∧ Framed s o t [] 600000 7302249
def lw_Z (below : List Frame) (a : Array Value) (s : State) : State → Prop := fun t => ∃ o, t.status = .running ∧ Ended t below o ∧ lw_Q a s o t
/-- the law's own end, with 1 on the stack, nothing written that was there before, its room as the claim has it -/
theorem lw_ret {p : Program} {l : Launch} {e : Env} {s : State} {m : MethodId} {below : List Frame} {meth : Method} {c : Code} {b : Nat} (hx : p.tables.exec = Jvm.exec) (hb : c.code = code) (hr : meth.sig.returnType = ret) (hlocks : meth.locks = false) {pc : Nat} {H : Heap} {ls : Array Slot} (hdg : decode code pc = .ok (.ireturn, 1)) : W p l e room_1 s m #[Value.ref b] below meth c H [] 600000 7302249 (lw_Z below #[Value.ref b] s) (F0 m pc ls [.int 1]) := by
  intro T hT X
  obtain ⟨fs, hret, hrun, hended, hW, hframe⟩ := X.leave (v := some (.int 1)) (hlocks := hlocks) (fun h => by rw [hr] at h; cases h)
  have hmeth' : T.vm.method? m = some meth := X.method'
  refine ⟨T.setFrames fs, ?_, .returned (some (.int 1)), hrun, hended, rfl, ⟨_, rfl⟩, hW, hframe⟩
  jvm_step X.here [X.here.top, hx, hb, hdg, hmeth', hr, ret, narrow_b1]
  (try refine ⟨rfl, ?_⟩); (try refine ⟨rfl, ?_⟩)
  first | (intro acts; rw [hret _ acts rfl rfl rfl]) | rw [hret _ _ rfl rfl rfl]
  exact Steps.refl _
/-- what holds at the law's entry: the machine, the code, the tables' words (any of lw_tbl by 'hts w (by decide +kernel)'), the script of L ints xs at the cell b, what the Statement gives of the start (any of its parts by flat_of_before) -/
def lw_At (p : Program) (s : State) (m : MethodId) (meth : Method) (c : Code) (b L : Nat) (xs : Nat → Int32) : Prop :=
  p.tables.exec = Jvm.exec ∧ c.code = code ∧ meth.sig.returnType = ret ∧ c.maxLocals = 8 ∧ s.vm.findClass R_law = some m.cls ∧ (∀ w ∈ lw_tbl, w.before #[Value.ref b] s = true) ∧ va_X b L xs s s.heap ∧ b < s.heap.size ∧ meth.locks = false ∧ (Jvm.Cond.and given_1 narrow_1).before #[Value.ref b] s = true
def LXl : List Nat := [0, 1, 2, 3, 4, 5, 6, 7, 8, 9, 10, 11, 12, 13, 14]
def LMl : List Nat := [20, 21, 22, 23, 24, 25, 26, 27, 28, 29, 30, 31, 32, 33, 34]
theorem lrX : lr 0 14 LXl := fun c h1 h2 => by
  rcases (show c = 0 ∨ c = 1 ∨ c = 2 ∨ c = 3 ∨ c = 4 ∨ c = 5 ∨ c = 6 ∨ c = 7 ∨ c = 8 ∨ c = 9 ∨ c = 10 ∨ c = 11 ∨ c = 12 ∨ c = 13 ∨ c = 14 by omega) with rfl | rfl | rfl | rfl | rfl | rfl | rfl | rfl | rfl | rfl | rfl | rfl | rfl | rfl | rfl <;> decide
theorem lrMl : lr 20 34 LMl := lrM
/-- two worlds beside each other, all new since s -/
def Lg (D : va_G) (cy ad : Nat → Nat) (L : List Nat) (cy' ad' : Nat → Nat) (L' : List Nat) (s : State) (A B : Mem) (H : Heap) (locs : List Loc) : Prop := (va_P D vwCl (wl cy ad R0 A L) H) ∧ (va_P D vwCl (wl cy' ad' R0 B L') H) ∧ (va_D (fun q => s.heap.size ≤ q) (wl cy ad R0 A L)) ∧ (va_D (fun q => s.heap.size ≤ q) (wl cy' ad' R0 B L')) ∧ (∀ c ∈ L, ∀ c' ∈ L', ad c ≠ ad' c') ∧ (va_S (fun q => s.heap.size ≤ q) s.heap H locs)
theorem Lg.P1 {D : va_G} {cy ad : Nat → Nat} {L : List Nat} {cy' ad' : Nat → Nat} {L' : List Nat} {s : State} {A B : Mem} {H : Heap} {locs : List Loc} (h : Lg D cy ad L cy' ad' L' s A B H locs) : va_P D vwCl (wl cy ad R0 A L) H := h.1
theorem Lg.P2 {D : va_G} {cy ad : Nat → Nat} {L : List Nat} {cy' ad' : Nat → Nat} {L' : List Nat} {s : State} {A B : Mem} {H : Heap} {locs : List Loc} (h : Lg D cy ad L cy' ad' L' s A B H locs) : va_P D vwCl (wl cy' ad' R0 B L') H := h.2.1
theorem Lg.D1 {D : va_G} {cy ad : Nat → Nat} {L : List Nat} {cy' ad' : Nat → Nat} {L' : List Nat} {s : State} {A B : Mem} {H : Heap} {locs : List Loc} (h : Lg D cy ad L cy' ad' L' s A B H locs) : va_D (fun q => s.heap.size ≤ q) (wl cy ad R0 A L) := h.2.2.1
theorem Lg.D2 {D : va_G} {cy ad : Nat → Nat} {L : List Nat} {cy' ad' : Nat → Nat} {L' : List Nat} {s : State} {A B : Mem} {H : Heap} {locs : List Loc} (h : Lg D cy ad L cy' ad' L' s A B H locs) : va_D (fun q => s.heap.size ≤ q) (wl cy' ad' R0 B L') := h.2.2.2.1
theorem Lg.X {D : va_G} {cy ad : Nat → Nat} {L : List Nat} {cy' ad' : Nat → Nat} {L' : List Nat} {s : State} {A B : Mem} {H : Heap} {locs : List Loc} (h : Lg D cy ad L cy' ad' L' s A B H locs) : ∀ c ∈ L, ∀ c' ∈ L', ad c ≠ ad' c' := h.2.2.2.2.1
theorem Lg.S {D : va_G} {cy ad : Nat → Nat} {L : List Nat} {cy' ad' : Nat → Nat} {L' : List Nat} {s : State} {A B : Mem} {H : Heap} {locs : List Loc} (h : Lg D cy ad L cy' ad' L' s A B H locs) : va_S (fun q => s.heap.size ≤ q) s.heap H locs := h.2.2.2.2.2
theorem Lg.symm {D : va_G} {cy ad : Nat → Nat} {L : List Nat} {cy' ad' : Nat → Nat} {L' : List Nat} {s : State} {A B : Mem} {H : Heap} {locs : List Loc} (h : Lg D cy ad L cy' ad' L' s A B H locs) : Lg D cy' ad' L' cy ad L s B A H locs :=
  ⟨h.P2, h.P1, h.D2, h.D1, fun c hc c' hc' e => h.X c' hc' c hc e.symm, h.S⟩
theorem at_lt {D : va_G} {q : Nat × va_E} {H : Heap} (h : va_at D vwCl q H) : q.1 < H.size := by
  obtain ⟨a, e⟩ := q
  cases e with
  | inl x => exact (Array.getElem?_eq_some_iff.mp (show H[a]? = some _ from h)).1
  | inr o =>
    obtain ⟨r, -, cell, hc, -⟩ := h
    exact (Array.getElem?_eq_some_iff.mp hc).1
section LG
variable {p : Program} {l : Launch} {e : Env} {R : Room} {s : State} {m : MethodId} {args : Array Value} {below : List Frame} {meth : Method} {c : Code} {H : Heap} {locs : List Loc} {cells slots : Nat} {Q : State → Prop}
variable {cc : ByteArray} {pc : Nat} {ls : Array Slot} {rest st0 : List Value} {D : va_G} {cy ad cy' ad' : Nat → Nat} {A B : Mem} {L L' : List Nat} {a : Array Value}
variable {y : MethodName} {bytes : ByteArray} {maxL nL n idx id ci N : Nat} {ret : Option FieldType} {rm : Room} {Qc : Array Value → State → Outcome → State → Prop} {own C : String} {T : u_T} {As : List Value}
theorem Lg.F (h : Lg D cy ad L cy' ad' L' s A B H locs) : ∀ q, fA ad L H.size q → s.heap.size ≤ q := fA_in h.D1 h.S (fun _ z => z)
theorem Lg.go (h : Lg D cy ad L cy' ad' L' s A B H locs) {M1 : Mem} {H1 : Heap} {locs1 : List Loc} (hP : va_P D vwCl (wl cy ad R0 M1 L) H1) (hD : va_D (fA ad L H.size) (wl cy ad R0 M1 L)) (hk : ∀ q : Nat, q < H.size → ¬ fA ad L H.size q → H1[q]? = H[q]?) (hS : va_S (fun q => s.heap.size ≤ q) s.heap H1 locs1) : Lg D cy ad L cy' ad' L' s M1 B H1 locs1 := by
  refine ⟨hP, h.P2.kept (fun k q hq => ?_), hD.weaken (fun _ _ _ z => h.F _ z), h.D2, h.X, hS⟩
  have hlt := at_lt (h.P2 k q hq)
  refine hk q.1 hlt ?_
  rintro (⟨c1, hc1, e1⟩ | z)
  · obtain ⟨c2, hc2, e2⟩ := List.mem_map.mp (List.mem_of_getElem? hq)
    exact h.X c1 hc1 c2 hc2 (by rw [← e1, ← e2])
  · omega
theorem g_V (S : CallFix p m c cc nL s args BG own) (hK : KK D cy L s) (hE : EX (fun q => s.heap.size ≤ q) s) (hC : Lg D cy ad L cy' ad' L' s A B H locs) (hM : Met l y (Cond.code y bytes maxL ret :: BG) rm (va_Pc (.ref (ad id) :: As) (PW D cy ad L A H.size)) Qc 0 0 (fA ad L H.size)) (hs : sh id = (0, ci, N)) (hL : id ∈ L) (hc : vwCl[ci]? = some (C, T, N)) (h1 : Cond.methodLink own idx y ∈ BG) (h2 : Cond.instanceMethod y ∈ BG) (h3 : Cond.selects C y y ∈ BG) (h4 : Cond.initialized C ∈ BG) (h5 : Cond.code y bytes maxL ret ∈ BG) (hy : y.cls = C) (hd : y.cls ≠ "java/lang/invoke/MethodHandle" ∧ y.cls ≠ "java/lang/invoke/VarHandle" ∧ (parseMethodDescriptor y.desc).map (fun d => d.parameters.length) = some n) (hrm : rm.cells = 0 ∧ rm.slots = 0) (hR : rm.frames + 1 ≤ R.frames ∧ 8 + (maxL + 11) + rm.locals ≤ R.locals) (hn : As.length = n) (hsz : ls.size = nL) (hst : st0 = As.reverse ++ .ref (ad id) :: rest) (hrest : (rest.map fun v => v.category).sum ≤ 8) (hdg : decode cc pc = .ok (.invokevirtual idx, 3)) (hf : cells ≤ R.cells ∧ slots ≤ R.slots) :
    va_Run p l e R s m args below meth c H locs cells slots 0 0 (F0 m pc ls st0) rest (Qc (Value.ref (ad id) :: As).toArray) (fA ad L H.size) := by
  obtain ⟨q, hq⟩ := wl_get (cy := cy) (ad := ad) (RR := R0) (M := A) hL
  rw [cel_obj hs] at hq
  exact va_runV S hM (cwV n S.2.2.2.2 (gd_V (fun _ h => h) h1 h2 h3 h4 h5) rfl hrm.1 hrm.2 ⟨hy, hd⟩ hR) ⟨PW_blind, va_recv hK.1 hC.P1 hc hq, fun U hU hW => ⟨rfl, PW_callA hC.P1 hC.D1 hK hE hC.S hC.F hU hW⟩⟩ rfl hn hsz hst (lv_room (pc := pc) (ls := ls) (rest := st0) hrest) hdg hf
theorem g_i {post : Int32 → Mem → Prop} (hr : va_Run p l e R s m args below meth c H locs cells slots 0 0 (F0 m pc ls st0) rest (va_Qi post (OW D cy ad L H.size) (fA ad L H.size) a) (fA ad L H.size)) (hC : Lg D cy ad L cy' ad' L' s A B H locs)
    (kk : ∀ (r : Int32) (M1 : Mem) (H1 : Heap) (locs1 : List Loc), post r M1 → Lg D cy ad L cy' ad' L' s M1 B H1 locs1 → W p l e R s m args below meth c H1 locs1 cells slots Q (F0 m (pc + 3) ls (.int r :: rest))) : W p l e R s m args below meth c H locs cells slots Q (F0 m pc ls st0) :=
  va_calli hr hC.S (fun q _ h => hC.F q h) hC.F (fun r u t H1 locs1 ht _ hp hB _ hk hS => kk r u H1 locs1 hp (hC.go (by rw [← ht]; exact hB.1) hB.2 hk hS))
theorem g_f {post : UInt32 → Mem → Prop} (hr : va_Run p l e R s m args below meth c H locs cells slots 0 0 (F0 m pc ls st0) rest (va_Qf post (OW D cy ad L H.size) (fA ad L H.size) a) (fA ad L H.size)) (hC : Lg D cy ad L cy' ad' L' s A B H locs)
    (kk : ∀ (r : UInt32) (M1 : Mem) (H1 : Heap) (locs1 : List Loc), post r M1 → Lg D cy ad L cy' ad' L' s M1 B H1 locs1 → W p l e R s m args below meth c H1 locs1 cells slots Q (F0 m (pc + 3) ls (.float r :: rest))) : W p l e R s m args below meth c H locs cells slots Q (F0 m pc ls st0) :=
  va_callf hr hC.S (fun q _ h => hC.F q h) hC.F (fun r u t H1 locs1 ht _ hp hB _ hk hS => kk r u H1 locs1 hp (hC.go (by rw [← ht]; exact hB.1) hB.2 hk hS))
theorem g_v {post : Mem → Prop} (hr : va_Run p l e R s m args below meth c H locs cells slots 0 0 (F0 m pc ls st0) rest (va_Qv post (OW D cy ad L H.size) (fA ad L H.size) a) (fA ad L H.size)) (hC : Lg D cy ad L cy' ad' L' s A B H locs)
    (kk : ∀ (M1 : Mem) (H1 : Heap) (locs1 : List Loc), post M1 → Lg D cy ad L cy' ad' L' s M1 B H1 locs1 → W p l e R s m args below meth c H1 locs1 cells slots Q (F0 m (pc + 3) ls rest)) : W p l e R s m args below meth c H locs cells slots Q (F0 m pc ls st0) :=
  va_callv hr hC.S (fun q _ h => hC.F q h) hC.F (fun u t H1 locs1 ht _ hp hB _ hk hS => kk u H1 locs1 hp (hC.go (by rw [← ht]; exact hB.1) hB.2 hk hS))
end LG
