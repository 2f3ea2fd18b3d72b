/-! CONTRACTS over the memory: how a method begins, calls and ends -/
/-- what a method may change: the cells in L, and what is new -/
def fA (ad : Nat → Nat) (L : List Nat) (sz : Nat) : Nat → Prop := fun q => (∃ c ∈ L, q = ad c) ∨ sz ≤ q
theorem fA_mono {ad : Nat → Nat} {L : List Nat} {a b q : Nat} (h : a ≤ b) (hq : fA ad L b q) : fA ad L a q := hq.elim Or.inl (fun z => Or.inr (Nat.le_trans h z))
def planL : List Int32 := [1, 1, 1, 1, 1, 1, 1, 1, 1, 1, 1, 1, 1, 1, 3, 2, 2, 2, 2, 1, 2, 2, 2, 2, 3, 1, 1, 2, 1, 1, 2, 2, 2, 2, 2, 1, 1, 2, 1, 1, 2, 1, 2, 2, 1, 4, 1, 2, 2, 1, 2, 1, 2, 2, 2, 2, 1, 4, 4, 4, 1, 2, 2, 2, 2, 1, 2, 1, 2, 2, 1, 1, 1, 2, 2, 1, 2, 1, 1, 2, 1, 1, 2, 2, 2, 2, 2, 1, 1, 2, 1, 1, 3, 2, 2, 2, 2, 1, 2, 2, 2, 2, 3, 1, 1, 1, 1, 1, 1, 1, 1, 1, 1, 1, 1, 1, 1]
def planF (j : Nat) : Int32 := planL.getD j 0
def nestL : List (String × Nat × MethodName × String) := [("MazeBoard$Actor", 39, ⟨"MazeBoard", "nextColumn", "(II)I"⟩, "MazeBoard"), ("MazeBoard$Actor", 45, ⟨"MazeBoard", "nextRow", "(II)I"⟩, "MazeBoard"), ("MazeBoard$Game", 24, ⟨"MazeBoard$Actor", "<init>", "()V"⟩, "MazeBoard"), ("MazeBoard$Game", 162, ⟨"MazeBoard", "opposite", "(I)I"⟩, "MazeBoard"), ("MazeBoard$Game", 198, ⟨"MazeBoard", "nextColumn", "(II)I"⟩, "MazeBoard"), ("MazeBoard$Game", 201, ⟨"MazeBoard", "nextRow", "(II)I"⟩, "MazeBoard"), ("MazeBoard$Game", 210, ⟨"MazeBoard", "distance", "(IIII)I"⟩, "MazeBoard"), ("MazeBoard$Game", 229, ⟨"MazeBoard", "columnStep", "(I)I"⟩, "MazeBoard"), ("MazeBoard$Game", 232, ⟨"MazeBoard", "rowStep", "(I)I"⟩, "MazeBoard"), ("MazeBoard$Maze", 27, ⟨"MazeBoard", "nextColumn", "(II)I"⟩, "MazeBoard"), ("MazeBoard$Maze", 34, ⟨"MazeBoard", "nextRow", "(II)I"⟩, "MazeBoard"), ("MazeBoard$Picture", 39, ⟨"MazeBoard", "columnStep", "(I)I"⟩, "MazeBoard"), ("MazeBoard$Picture", 46, ⟨"MazeBoard", "rowStep", "(I)I"⟩, "MazeBoard"), ("MazeBoard$Speaker", 17, ⟨"MazeBoard$Voice", "<init>", "()V"⟩, "MazeBoard")]
def NW (U : State) : Prop := ∀ q ∈ nestL, va_Nw (.methodLinkNest q.1 q.2.1 q.2.2.1 q.2.2.2) U
def PL (A : Nat → Prop) (U : State) : Prop := ∃ t : Nat, va_Z "MazeBoard$Maze" "PLAN" "[B" (.ref t) A U U.heap ∧ va_T .byte t 117 (fun j => .int (planF j)) A U U.heap
def EX (A : Nat → Prop) (U : State) : Prop := PL A U ∧ NW U
def PW (D : va_G) (cy ad : Nat → Nat) (L : List Nat) (M : Mem) (sz : Nat) (U : State) : Prop := U.heap.size = sz ∧ va_P D vwCl (wl cy ad R0 M L) U.heap ∧ KK D cy L U ∧ va_D (fun _ => True) (wl cy ad R0 M L) ∧ EX (fA ad L sz) U
def OW (D : va_G) (cy ad : Nat → Nat) (L : List Nat) (sz : Nat) (M : Mem) (t : State) : Prop := va_P D vwCl (wl cy ad R0 M L) t.heap ∧ va_D (fA ad L sz) (wl cy ad R0 M L)
theorem wl_self {A : Nat → Prop} {cy ad : Nat → Nat} {RR : Nat → Nat → Option Nat} {M : Mem} {L : List Nat} {sz : Nat} (h : va_D A (wl cy ad RR M L)) : va_D (fA ad L sz) (wl cy ad RR M L) := by
  refine h.weaken (fun k q hk _ => Or.inl ?_)
  obtain ⟨c, hc, rfl⟩ := List.mem_map.mp (List.mem_of_getElem? hk)
  exact ⟨c, hc, rfl⟩
theorem EX.go {A B : Nat → Prop} {s U : State} {H : Heap} {locs : List Loc} (h : EX A s) (hS : va_S A s.heap H locs) (hAB : ∀ q, B q → A q) (hU : U.heap = H) (hW : s.WarmedH U.vm) : EX B U := by
  obtain ⟨⟨t, hZ, hT⟩, hN⟩ := h
  refine ⟨⟨t, ?_, ?_⟩, fun q hq => va_Nw.warmM hW (hN q hq)⟩
  · rw [hU]
    exact ((hZ.kept (H1 := H) (fun a h1 h2 => hS.2.1 a h1 h2)).moved hW.alike).narrow hAB
  · rw [hU]
    exact ((hT.kept (H1 := H) (fun a h1 h2 => hS.2.1 a h1 h2)).moved hW.alike).narrow hAB
theorem PW_blind {D : va_G} {cy ad : Nat → Nat} {L : List Nat} {M : Mem} {sz : Nat} {av : List Value} : FrameBlind (va_Pc av (PW D cy ad L M sz)) := by
  intro a U g mk q
  obtain ⟨q0, q1, qP, qK, qD, ⟨t, hZ, hT⟩, hN⟩ := q
  exact ⟨q0, q1, qP, KK.moved (u := U) (U := U.calling g mk a) (Vm.Alike.refl U.vm) qK, qD, ⟨t, va_Z.moved (u := U) (U := U.calling g mk a) (Vm.Alike.refl U.vm) hZ, va_T.moved (u := U) (U := U.calling g mk a) (Vm.Alike.refl U.vm) hT⟩, fun z hz => va_Nw.same rfl (u := U) (U := U.calling g mk a) rfl (hN z hz)⟩
section QC
variable {p : Program} {l : Launch} {e : Env} {R : Room} {s : State} {m : MethodId} {args : Array Value} {below : List Frame} {meth : Method} {c : Code} {H : Heap} {locs : List Loc} {cells slots : Nat} {Q : State → Prop}
variable {cc : ByteArray} {pc : Nat} {ls : Array Slot} {rest st0 : List Value} {D : va_G} {cy ad : Nat → Nat} {M : Mem} {L : List Nat} {a : Array Value}
theorem PW_call (hC : Cx D cy ad R0 L (fA ad L s.heap.size) s M H locs) (hK : KK D cy L s) (hE : EX (fA ad L s.heap.size) s) {U : State} (hU : U.heap = H) (hW : s.WarmedH U.vm) : PW D cy ad L M H.size U :=
  ⟨by rw [hU], by rw [hU]; exact hC.1, hK.moved hW.alike, hC.2.1.weaken (fun _ _ _ _ => trivial), hE.go hC.2.2 (fun _ h => fA_mono hC.2.2.1 h) hU hW⟩
theorem q_Ci {post : Int32 → Mem → Prop} (hr : va_Run p l e R s m args below meth c H locs cells slots 0 0 (F0 m pc ls st0) rest (va_Qi post (OW D cy ad L H.size) (fA ad L H.size) a) (fA ad L H.size)) (hC : Cx D cy ad R0 L (fA ad L s.heap.size) s M H locs)
    (kk : ∀ (r : Int32) (M1 : Mem) (H1 : Heap) (locs1 : List Loc), post r M1 → Cx D cy ad R0 L (fA ad L s.heap.size) s M1 H1 locs1 → W p l e R s m args below meth c H1 locs1 cells slots Q (F0 m (pc + 3) ls (.int r :: rest))) : W p l e R s m args below meth c H locs cells slots Q (F0 m pc ls st0) :=
  va_calli hr hC.2.2 (fun q _ h => fA_mono hC.2.2.1 h) (fun q h => fA_mono hC.2.2.1 h) (fun r u t H1 locs1 ht _ hp hB _ _ hS => kk r u H1 locs1 hp ⟨by rw [← ht]; exact hB.1, hB.2.weaken (fun _ _ _ h => fA_mono hC.2.2.1 h), hS⟩)
theorem q_Cf {post : UInt32 → Mem → Prop} (hr : va_Run p l e R s m args below meth c H locs cells slots 0 0 (F0 m pc ls st0) rest (va_Qf post (OW D cy ad L H.size) (fA ad L H.size) a) (fA ad L H.size)) (hC : Cx D cy ad R0 L (fA ad L s.heap.size) s M H locs)
    (kk : ∀ (r : UInt32) (M1 : Mem) (H1 : Heap) (locs1 : List Loc), post r M1 → Cx D cy ad R0 L (fA ad L s.heap.size) s M1 H1 locs1 → W p l e R s m args below meth c H1 locs1 cells slots Q (F0 m (pc + 3) ls (.float r :: rest))) : W p l e R s m args below meth c H locs cells slots Q (F0 m pc ls st0) :=
  va_callf hr hC.2.2 (fun q _ h => fA_mono hC.2.2.1 h) (fun q h => fA_mono hC.2.2.1 h) (fun r u t H1 locs1 ht _ hp hB _ _ hS => kk r u H1 locs1 hp ⟨by rw [← ht]; exact hB.1, hB.2.weaken (fun _ _ _ h => fA_mono hC.2.2.1 h), hS⟩)
theorem q_Cv {post : Mem → Prop} (hr : va_Run p l e R s m args below meth c H locs cells slots 0 0 (F0 m pc ls st0) rest (va_Qv post (OW D cy ad L H.size) (fA ad L H.size) a) (fA ad L H.size)) (hC : Cx D cy ad R0 L (fA ad L s.heap.size) s M H locs)
    (kk : ∀ (M1 : Mem) (H1 : Heap) (locs1 : List Loc), post M1 → Cx D cy ad R0 L (fA ad L s.heap.size) s M1 H1 locs1 → W p l e R s m args below meth c H1 locs1 cells slots Q (F0 m (pc + 3) ls rest)) : W p l e R s m args below meth c H locs cells slots Q (F0 m pc ls st0) :=
  va_callv hr hC.2.2 (fun q _ h => fA_mono hC.2.2.1 h) (fun q h => fA_mono hC.2.2.1 h) (fun u t H1 locs1 ht _ hp hB _ _ hS => kk u H1 locs1 hp ⟨by rw [← ht]; exact hB.1, hB.2.weaken (fun _ _ _ h => fA_mono hC.2.2.1 h), hS⟩)
variable {y : MethodName} {bytes : ByteArray} {maxL nL n idx id ci N : Nat} {ret : Option FieldType} {rm : Room} {Qc : Array Value → State → Outcome → State → Prop} {own C host : String} {T : u_T} {As : List Value}
theorem q_V (S : CallFix p m c cc nL s args BG own) (hK : KK D cy L s) (hE : EX (fA ad L s.heap.size) s) (hC : Cx D cy ad R0 L (fA ad L s.heap.size) s M H locs) (hM : Met l y (Cond.code y bytes maxL ret :: BG) rm (va_Pc (.ref (ad id) :: As) (PW D cy ad L M H.size)) Qc 0 0 (fA ad L H.size)) (hs : sh id = (0, ci, N)) (hL : id ∈ L) (hc : vwCl[ci]? = some (C, T, N)) (h1 : Cond.methodLink own idx y ∈ BG) (h2 : Cond.instanceMethod y ∈ BG) (h3 : Cond.selects C y y ∈ BG) (h4 : Cond.initialized C ∈ BG) (h5 : Cond.code y bytes maxL ret ∈ BG) (hy : y.cls = C) (hd : y.cls ≠ "java/lang/invoke/MethodHandle" ∧ y.cls ≠ "java/lang/invoke/VarHandle" ∧ (parseMethodDescriptor y.desc).map (fun d => d.parameters.length) = some n) (hrm : rm.cells = 0 ∧ rm.slots = 0) (hR : rm.frames + 1 ≤ R.frames ∧ 8 + (maxL + 11) + rm.locals ≤ R.locals) (hn : As.length = n) (hsz : ls.size = nL) (hst : st0 = As.reverse ++ .ref (ad id) :: rest) (hrest : (rest.map fun v => v.category).sum ≤ 8) (hdg : decode cc pc = .ok (.invokevirtual idx, 3)) (hf : cells ≤ R.cells ∧ slots ≤ R.slots) : va_Run p l e R s m args below meth c H locs cells slots 0 0 (F0 m pc ls st0) rest (Qc (Value.ref (ad id) :: As).toArray) (fA ad L H.size) := by
  obtain ⟨q, hq⟩ := wl_get (cy := cy) (ad := ad) (RR := R0) (M := M) hL
  rw [cel_obj hs] at hq
  exact va_runV S hM (cwV n S.2.2.2.2 (gd_V (fun _ h => h) h1 h2 h3 h4 h5) rfl hrm.1 hrm.2 ⟨hy, hd⟩ hR) ⟨PW_blind, va_recv hK.1 hC.1 hc hq, fun U hU hW => ⟨rfl, PW_call hC hK hE hU hW⟩⟩ rfl hn hsz hst (lv_room (pc := pc) (ls := ls) (rest := st0) hrest) hdg hf
theorem q_S (S : CallFix p m c cc nL s args BG own) (hK : KK D cy L s) (hE : EX (fA ad L s.heap.size) s) (hC : Cx D cy ad R0 L (fA ad L s.heap.size) s M H locs) (hM : Met l y (Cond.code y bytes maxL ret :: BG) rm (va_Pc As (PW D cy ad L M H.size)) Qc 0 0 (fA ad L H.size)) (h1 : Cond.methodLink own idx y ∈ BG) (h2 : Cond.static y ∈ BG) (h4 : Cond.initialized y.cls ∈ BG) (h5 : Cond.code y bytes maxL ret ∈ BG) (hd : y.cls ≠ "java/lang/invoke/MethodHandle" ∧ y.cls ≠ "java/lang/invoke/VarHandle" ∧ (parseMethodDescriptor y.desc).map (fun d => d.parameters.length) = some n) (hrm : rm.cells = 0 ∧ rm.slots = 0) (hR : rm.frames + 1 ≤ R.frames ∧ 8 + (maxL + 11) + rm.locals ≤ R.locals) (hn : As.length = n) (hsz : ls.size = nL) (hst : st0 = As.reverse ++ rest) (hrest : (rest.map fun v => v.category).sum ≤ 8) (hdg : decode cc pc = .ok (.invokestatic idx, 3)) (hf : cells ≤ R.cells ∧ slots ≤ R.slots) : va_Run p l e R s m args below meth c H locs cells slots 0 0 (F0 m pc ls st0) rest (Qc As.toArray) (fA ad L H.size) :=
  va_runS S hM (va_cwS n S.2.2.2.2 (gd_S (fun _ h => h) h1 h2 h4 h5) rfl hrm.1 hrm.2 hd hR) ⟨PW_blind, fun U hU hW => ⟨rfl, PW_call hC hK hE hU hW⟩⟩ rfl hn hsz hst (lv_room (pc := pc) (ls := ls) (rest := st0) hrest) hdg hf
theorem q_N (S : CallFix p m c cc nL s args BG own) (hK : KK D cy L s) (hE : EX (fA ad L s.heap.size) s) (hC : Cx D cy ad R0 L (fA ad L s.heap.size) s M H locs) (hM : Met l y (Cond.code y bytes maxL ret :: BG) rm (va_Pc As (PW D cy ad L M H.size)) Qc 0 0 (fA ad L H.size)) (h1 : va_Nw (.methodLinkNest own idx y host) s) (h2 : Cond.static y ∈ BG) (h4 : Cond.initialized y.cls ∈ BG) (h5 : Cond.code y bytes maxL ret ∈ BG) (hd : y.cls ≠ "java/lang/invoke/MethodHandle" ∧ y.cls ≠ "java/lang/invoke/VarHandle" ∧ (parseMethodDescriptor y.desc).map (fun d => d.parameters.length) = some n) (hrm : rm.cells = 0 ∧ rm.slots = 0) (hR : rm.frames + 1 ≤ R.frames ∧ 8 + (maxL + 11) + rm.locals ≤ R.locals) (hn : As.length = n) (hsz : ls.size = nL) (hst : st0 = As.reverse ++ rest) (hrest : (rest.map fun v => v.category).sum ≤ 8) (hdg : decode cc pc = .ok (.invokestatic idx, 3)) (hf : cells ≤ R.cells ∧ slots ≤ R.slots) : va_Run p l e R s m args below meth c H locs cells slots 0 0 (F0 m pc ls st0) rest (Qc As.toArray) (fA ad L H.size) :=
  va_runSN S hM ⟨va_cnB n S.2.2.2.2 (gd_C (fun _ h => h) h5) rfl hrm.1 hrm.2 h1 (S.2.2.2.2 _ h4) hd hR, S.2.2.2.2 _ h2, trivial⟩ ⟨PW_blind, fun U hU hW => ⟨rfl, PW_call hC hK hE hU hW⟩⟩ rfl hn hsz hst (lv_room (pc := pc) (ls := ls) (rest := st0) hrest) hdg hf
theorem q_reti {post : Int32 → Mem → Prop} {v : Int32} (hx : p.tables.exec = Jvm.exec) (hb : c.code = cc) (hr : meth.sig.returnType = some .int) (hlocks : meth.locks = false) (hC : Cx D cy ad R0 L (fA ad L s.heap.size) s M H locs) (hp : post v M) (hdg : decode cc pc = .ok (.ireturn, 1)) : W p l e R s m args below meth c H locs cells slots (MQ below (va_Qi post (OW D cy ad L s.heap.size) (fA ad L s.heap.size)) args s cells slots (fA ad L s.heap.size)) (F0 m pc ls [.int v]) :=
  W.iret hx hb hr (fun t ht _ => ⟨⟨v, M, rfl, hp, by rw [ht]; exact hC.1, hC.2.1⟩, hC.2.2.F ht⟩) hC.2.2.2.2 hdg hlocks
theorem q_retz {post : Int32 → Mem → Prop} {v : Int32} (hx : p.tables.exec = Jvm.exec) (hb : c.code = cc) (hr : meth.sig.returnType = some .boolean) (hlocks : meth.locks = false) (hC : Cx D cy ad R0 L (fA ad L s.heap.size) s M H locs) (hn : v = 0 ∨ v = 1) (hp : post v M) (hdg : decode cc pc = .ok (.ireturn, 1)) : W p l e R s m args below meth c H locs cells slots (MQ below (va_Qi post (OW D cy ad L s.heap.size) (fA ad L s.heap.size)) args s cells slots (fA ad L s.heap.size)) (F0 m pc ls [.int v]) :=
  W.zret hx hb hr (by rcases hn with rfl | rfl <;> decide) (fun t ht _ => ⟨⟨v, M, rfl, hp, by rw [ht]; exact hC.1, hC.2.1⟩, hC.2.2.F ht⟩) hC.2.2.2.2 hdg hlocks
theorem q_retf {post : UInt32 → Mem → Prop} {v : UInt32} (hx : p.tables.exec = Jvm.exec) (hb : c.code = cc) (hr : meth.sig.returnType = some .float) (hlocks : meth.locks = false) (hC : Cx D cy ad R0 L (fA ad L s.heap.size) s M H locs) (hp : post v M) (hdg : decode cc pc = .ok (.freturn, 1)) : W p l e R s m args below meth c H locs cells slots (MQ below (va_Qf post (OW D cy ad L s.heap.size) (fA ad L s.heap.size)) args s cells slots (fA ad L s.heap.size)) (F0 m pc ls [.float v]) :=
  W.fret hx hb hr (fun t ht _ => ⟨⟨v, M, rfl, hp, by rw [ht]; exact hC.1, hC.2.1⟩, hC.2.2.F ht⟩) hC.2.2.2.2 hdg hlocks
theorem q_retv {post : Mem → Prop} (hx : p.tables.exec = Jvm.exec) (hb : c.code = cc) (hr : meth.sig.returnType = none) (hlocks : meth.locks = false) (hC : Cx D cy ad R0 L (fA ad L s.heap.size) s M H locs) (hp : post M) (hdg : decode cc pc = .ok (.return_, 1)) : W p l e R s m args below meth c H locs cells slots (MQ below (va_Qv post (OW D cy ad L s.heap.size) (fA ad L s.heap.size)) args s cells slots (fA ad L s.heap.size)) (F0 m pc ls []) :=
  W.vret hx hb hr (fun t ht _ => ⟨⟨M, rfl, hp, by rw [ht]; exact hC.1, hC.2.1⟩, hC.2.2.F ht⟩) hC.2.2.2.2 hdg hlocks
theorem q_start {sz : Nat} {av : List Value} (hy : plainName y.cls = true) (hlen : (lg_sl av).length ≤ maxL)
    (body : ∀ (p : Program) (e : Env) (s : State) (m : MethodId) (below : List Frame) (meth : Method) (c : Code) (H : Heap) (locs : List Loc) (ls : Array Slot), sz = s.heap.size → p.tables.exec = Jvm.exec → c.code = bytes → meth.sig.returnType = ret → meth.locks = false → c.maxLocals = maxL → s.vm.findClass y.cls = some m.cls → (∀ w ∈ BG, w.before av.toArray s = true) → KK D cy L s → EX (fA ad L s.heap.size) s → Cx D cy ad R0 L (fA ad L s.heap.size) s M H locs → lv_has ls maxL (lv_args 0 av) →
      W p l e rm s m av.toArray below meth c H locs 0 0 (MQ below Qc av.toArray s 0 0 (fA ad L s.heap.size)) (F0 m 0 ls [])) : Met l y (Cond.code y bytes maxL ret :: BG) rm (va_Pc av (PW D cy ad L M sz)) Qc 0 0 (fA ad L sz) := by
  refine Met.ofW (cc := bytes) (maxL := maxL) (ret := ret) hy rfl ?_
  intro p e s m args below meth c s₁ B hml hv
  obtain ⟨rfl, hsz, hP, hK, hD0, hE⟩ := hv
  subst hsz
  have hts := atoms_spec (ws := Cond.code y bytes maxL ret :: BG) B.pre
  have hl := lv_entry av (n := maxL) hlen
  rw [lg_entry_eq]
  exact body p e s m below meth c _ _ _ rfl B.exec B.bytes B.returns B.notSynchronized hml (findClass_of_methodNamed B.named) (fun w h => hts w (List.mem_cons_of_mem _ h)) hK hE ⟨hP, wl_self hD0, va_S.rf⟩ hl
end QC
theorem iteT {c a b : Prop} [Decidable c] (h : if c then a else b) (hc : c) : a := by rwa [if_pos hc] at h
theorem iteF {c a b : Prop} [Decidable c] (h : if c then a else b) (hc : ¬ c) : b := by rwa [if_neg hc] at h
/-- the cells from lo to hi are there -/
def lr (lo hi : Nat) (L : List Nat) : Prop := ∀ c, lo ≤ c → c ≤ hi → c ∈ L
theorem lr.sub {a b a' b' : Nat} {L : List Nat} (h : lr a b L) (h1 : a ≤ a') (h2 : b' ≤ b) : lr a' b' L := fun c x y => h c (Nat.le_trans h1 x) (Nat.le_trans y h2)
def isA (h : Nat) : Prop := 5 ≤ h ∧ h ≤ 9
def isV (h : Nat) : Prop := 12 ≤ h ∧ h ≤ 14
theorem isA.sh {h : Nat} (x : isA h) : sh h = (0, 0, 11) := by
  obtain ⟨a, b⟩ := x
  rcases (show h = 5 ∨ h = 6 ∨ h = 7 ∨ h = 8 ∨ h = 9 by omega) with rfl | rfl | rfl | rfl | rfl <;> rfl
theorem isV.sh {h : Nat} (x : isV h) : sh h = (0, 4, 3) := by
  obtain ⟨a, b⟩ := x
  rcases (show h = 12 ∨ h = 13 ∨ h = 14 by omega) with rfl | rfl | rfl <;> rfl
theorem isA.of {i : Int32} (x : vp_in i 5) : isA (5 + i.toNatClampNeg) := by
  have : i.toNatClampNeg < 5 := Nat.not_le.mp fun q => x (Or.inr q)
  exact ⟨by omega, by omega⟩
theorem isV.of {i : Int32} (x : vp_in i 3) : isV (12 + i.toNatClampNeg) := by
  have : i.toNatClampNeg < 3 := Nat.not_le.mp fun q => x (Or.inr q)
  exact ⟨by omega, by omega⟩
theorem bo_n {v : Int32} (h : v = 0 ∨ v = 1) : narrow .boolean (.int v) = .int v := by rcases h with rfl | rfl <;> decide
theorem bo_f {v : Int32} (h : v = 0 ∨ v = 1) : fits .boolean (.int v) = true := by rcases h with rfl | rfl <;> decide
theorem bo_v {v : Int32} (h : v = 0 ∨ v = 1) : vp_nar .boolean v = v := by rcases h with rfl | rfl <;> decide
theorem nw_X0_39 {U : State} (h : NW U) : va_Nw (.methodLinkNest "MazeBoard$Actor" 39 ⟨"MazeBoard", "nextColumn", "(II)I"⟩ "MazeBoard") U := h _ (List.mem_of_getElem? (i := 0) rfl)
theorem nw_X0_45 {U : State} (h : NW U) : va_Nw (.methodLinkNest "MazeBoard$Actor" 45 ⟨"MazeBoard", "nextRow", "(II)I"⟩ "MazeBoard") U := h _ (List.mem_of_getElem? (i := 1) rfl)
theorem nw_X1_24 {U : State} (h : NW U) : va_Nw (.methodLinkNest "MazeBoard$Game" 24 ⟨"MazeBoard$Actor", "<init>", "()V"⟩ "MazeBoard") U := h _ (List.mem_of_getElem? (i := 2) rfl)
theorem nw_X1_162 {U : State} (h : NW U) : va_Nw (.methodLinkNest "MazeBoard$Game" 162 ⟨"MazeBoard", "opposite", "(I)I"⟩ "MazeBoard") U := h _ (List.mem_of_getElem? (i := 3) rfl)
theorem nw_X1_198 {U : State} (h : NW U) : va_Nw (.methodLinkNest "MazeBoard$Game" 198 ⟨"MazeBoard", "nextColumn", "(II)I"⟩ "MazeBoard") U := h _ (List.mem_of_getElem? (i := 4) rfl)
theorem nw_X1_201 {U : State} (h : NW U) : va_Nw (.methodLinkNest "MazeBoard$Game" 201 ⟨"MazeBoard", "nextRow", "(II)I"⟩ "MazeBoard") U := h _ (List.mem_of_getElem? (i := 5) rfl)
theorem nw_X1_210 {U : State} (h : NW U) : va_Nw (.methodLinkNest "MazeBoard$Game" 210 ⟨"MazeBoard", "distance", "(IIII)I"⟩ "MazeBoard") U := h _ (List.mem_of_getElem? (i := 6) rfl)
theorem nw_X1_229 {U : State} (h : NW U) : va_Nw (.methodLinkNest "MazeBoard$Game" 229 ⟨"MazeBoard", "columnStep", "(I)I"⟩ "MazeBoard") U := h _ (List.mem_of_getElem? (i := 7) rfl)
theorem nw_X1_232 {U : State} (h : NW U) : va_Nw (.methodLinkNest "MazeBoard$Game" 232 ⟨"MazeBoard", "rowStep", "(I)I"⟩ "MazeBoard") U := h _ (List.mem_of_getElem? (i := 8) rfl)
theorem nw_X2_27 {U : State} (h : NW U) : va_Nw (.methodLinkNest "MazeBoard$Maze" 27 ⟨"MazeBoard", "nextColumn", "(II)I"⟩ "MazeBoard") U := h _ (List.mem_of_getElem? (i := 9) rfl)
theorem nw_X2_34 {U : State} (h : NW U) : va_Nw (.methodLinkNest "MazeBoard$Maze" 34 ⟨"MazeBoard", "nextRow", "(II)I"⟩ "MazeBoard") U := h _ (List.mem_of_getElem? (i := 10) rfl)
theorem nw_X3_39 {U : State} (h : NW U) : va_Nw (.methodLinkNest "MazeBoard$Picture" 39 ⟨"MazeBoard", "columnStep", "(I)I"⟩ "MazeBoard") U := h _ (List.mem_of_getElem? (i := 11) rfl)
theorem nw_X3_46 {U : State} (h : NW U) : va_Nw (.methodLinkNest "MazeBoard$Picture" 46 ⟨"MazeBoard", "rowStep", "(I)I"⟩ "MazeBoard") U := h _ (List.mem_of_getElem? (i := 12) rfl)
theorem nw_X4_17 {U : State} (h : NW U) : va_Nw (.methodLinkNest "MazeBoard$Speaker" 17 ⟨"MazeBoard$Voice", "<init>", "()V"⟩ "MazeBoard") U := h _ (List.mem_of_getElem? (i := 13) rfl)
