/-! CONSTRUCTORS: over explicit worlds; what comes out is a world wl. -/
def M00 : Mem := (fun _ _ => 0, fun _ _ => 0)
def AO (U : State) : Prop := va_AO "MazeBoard$Actor" U ∧ va_AO "MazeBoard$Voice" U
theorem AO.moved {u U : State} (hvm : u.vm.Alike U.vm) (h : AO u) : AO U := ⟨va_AO.moved hvm h.1, va_AO.moved hvm h.2⟩
def PX (D : va_G) (ws : va_W) (sz : Nat) (U : State) : Prop := U.heap.size = sz ∧ va_P D vwCl ws U.heap ∧ va_K D vwCl [] U ∧ va_D (fun _ => True) ws ∧ EX (va_A ws sz) U ∧ AO U
theorem PX_blind {D : va_G} {ws : va_W} {sz : Nat} {av : List Value} : FrameBlind (va_Pc av (PX D ws sz)) := by
  intro a U g mk q
  obtain ⟨q0, q1, qP, qK, qD, ⟨⟨t, hZ, hT⟩, hN⟩, hA⟩ := q
  exact ⟨q0, q1, qP, va_K.moved (u := U) (U := U.calling g mk a) (Vm.Alike.refl U.vm) qK, qD, ⟨⟨t, va_Z.moved (u := U) (U := U.calling g mk a) (Vm.Alike.refl U.vm) hZ, va_T.moved (u := U) (U := U.calling g mk a) (Vm.Alike.refl U.vm) hT⟩, fun z hz => va_Nw.same rfl (u := U) (U := U.calling g mk a) rfl (hN z hz)⟩, AO.moved (u := U) (U := U.calling g mk a) (Vm.Alike.refl U.vm) hA⟩
section XC
variable {p : Program} {l : Launch} {e : Env} {R : Room} {s : State} {m : MethodId} {args : Array Value} {below : List Frame} {meth : Method} {c : Code} {H : Heap} {locs : List Loc} {cells slots : Nat} {Q : State → Prop}
variable {D : va_G} {cy ad : Nat → Nat} {M : Mem} {L : List Nat} {y : MethodName} {bytes : ByteArray} {maxL mc ms : Nat} {rm : Room} {Qc : Array Value → State → Outcome → State → Prop}
theorem PX_call {A : Nat → Prop} {wc : va_W} (hPc : va_P D vwCl wc H) (hDc : va_D A wc) (hKc : va_K D vwCl [] s) (hE : EX A s) (hAO : AO s) (hS : va_S A s.heap H locs) (hFc : ∀ q, va_A wc H.size q → A q) {U : State} (hU : U.heap = H) (hW : s.WarmedH U.vm) : PX D wc H.size U :=
  ⟨by rw [hU], by rw [hU]; exact hPc, va_K.moved hW.alike hKc, hDc.weaken (fun _ _ _ _ => trivial), hE.go hS hFc hU hW, hAO.moved hW.alike⟩
theorem PW_callA {A : Nat → Prop} (hP : va_P D vwCl (wl cy ad R0 M L) H) (hD : va_D A (wl cy ad R0 M L)) (hK : KK D cy L s) (hE : EX A s) (hS : va_S A s.heap H locs) (hF : ∀ q, fA ad L H.size q → A q) {U : State} (hU : U.heap = H) (hW : s.WarmedH U.vm) : PW D cy ad L M H.size U :=
  ⟨by rw [hU], by rw [hU]; exact hP, hK.moved hW.alike, hD.weaken (fun _ _ _ _ => trivial), hE.go hS hF hU hW⟩
theorem fA_in {A : Nat → Prop} (hD : va_D A (wl cy ad R0 M L)) (hS : va_S A s.heap H locs) (hA : ∀ q, s.heap.size ≤ q → A q) : ∀ q, fA ad L H.size q → A q := by
  rintro q (⟨c, hc, rfl⟩ | h)
  · obtain ⟨k, hk⟩ := wl_get (cy := cy) (ad := ad) (RR := R0) (M := M) hc
    exact hD.2 k _ hk
  · exact hA q (Nat.le_trans hS.1 h)
theorem x_start {ws : va_W} {sz : Nat} {av : List Value} (hy : plainName y.cls = true) (hlen : (lg_sl av).length ≤ maxL)
    (body : ∀ (p : Program) (e : Env) (s : State) (m : MethodId) (below : List Frame) (meth : Method) (c : Code) (A : Nat → Prop) (ls : Array Slot), va_A ws s.heap.size = A → sz = s.heap.size → p.tables.exec = Jvm.exec → c.code = bytes → meth.sig.returnType = none → meth.locks = false → c.maxLocals = maxL → s.vm.findClass y.cls = some m.cls → meth.name = y.name → (∀ w ∈ BG, w.before av.toArray s = true) → va_P D vwCl ws s.heap → va_K D vwCl [] s → va_D A ws → EX A s → AO s → (∀ q : Nat, s.heap.size ≤ q → A q) → va_S A s.heap s.heap [] → lv_has ls maxL (lv_args 0 av) →
      W p l e rm s m av.toArray below meth c s.heap [] 0 0 (MQ below Qc av.toArray s mc ms A) (F0 m 0 ls [])) : Met l y (Cond.code y bytes maxL none :: BG) rm (va_Pc av (PX D ws sz)) Qc mc ms (va_A ws sz) := by
  refine Met.ofW (cc := bytes) (maxL := maxL) (ret := none) hy rfl ?_
  intro p e s m args below meth c s₁ B hml hv
  obtain ⟨rfl, hsz, hP, hK, hD0, hE, hAO⟩ := hv
  subst hsz
  have hts := atoms_spec (ws := Cond.code y bytes maxL none :: BG) B.pre
  have hl := lv_entry av (n := maxL) hlen
  rw [lg_entry_eq]
  exact body p e s m below meth c _ _ rfl rfl B.exec B.bytes B.returns B.notSynchronized hml (findClass_of_methodNamed B.named) (name_of_methodNamed B.named B.method).1 (fun w h => hts w (List.mem_cons_of_mem _ h)) hP hK hD0.self hE hAO (fun q h => Or.inr h) va_S.rf hl
end XC
theorem arrV_congr {cA N : Nat} {f g : Nat → Value} (h : ∀ j, j < N → f j = g j) : arrV cA N f = arrV cA N g := by
  unfold arrV
  congr 1
  apply Array.ext
  · simp
  · intro i h1 h2
    simp only [Array.getElem_ofFn]
    exact h i (by simpa using h1)
/-- a cell of a world wl may be told by other names -/
theorem cel_at {D : va_G} {cy cy' ad ad' : Nat → Nat} {RR RS : Nat → Nat → Option Nat} {M M' : Mem} {c a : Nat} {H : Heap} (h : va_at D vwCl (a, cel cy ad RR M c) H) (hy : cy' c = cy c) (hi : ∀ k, gI M' c k = gI M c k) (hf : ∀ k, gF M' c k = gF M c k) (hr : ∀ k, k < (sh c).2.2 → (RS c k).map ad' = (RR c k).map ad) : va_at D vwCl (a, cel cy' ad' RS M' c) H := by
  have e1 : (fun j => gI M' c j) = (fun j => gI M c j) := funext hi
  have e2 : (fun j => gF M' c j) = (fun j => gF M c j) := funext hf
  rcases hs : sh c with ⟨t, ci, n⟩
  rw [hs] at hr
  unfold cel at h ⊢
  rw [hs] at h ⊢
  match t, hs with
  | 0, hs =>
    have e3 : (List.range n).map (fun k => fv ad' RS M' c (fty ci k) k) = (List.range n).map (fun k => fv ad RR M c (fty ci k) k) := by
      apply List.map_congr_left
      intro k hk
      unfold fv
      split
      · rw [hi]
      · rw [hf]
      · rw [hr k (List.mem_range.mp hk)]
    show va_at D vwCl (a, .inr (ci, (List.range n).map (fun k => fv ad' RS M' c (fty ci k) k))) H
    rw [e3]
    exact h
  | 1, hs =>
    show va_at D vwCl (a, .inl (cy' c, n, .inl (fun j => gI M' c j))) H
    rw [hy, e1]
    exact h
  | 2, hs =>
    show va_at D vwCl (a, .inl (cy' c, n, .inr (.inr (.inl (fun j => gF M' c j))))) H
    rw [hy, e2]
    exact h
  | t + 3, hs =>
    show H[a]? = some (vp_cell (cy' c) (n, .inr (.inr (.inr (.inr (fun j => (RS c j).map ad'))))))
    have h : H[a]? = some (vp_cell (cy c) (n, .inr (.inr (.inr (.inr (fun j => (RR c j).map ad)))))) := h
    rw [h, hy]
    exact congrArg some (arrV_congr (N := n) (f := fun j => va_rf ((RR c j).map ad)) (g := fun j => va_rf ((RS c j).map ad')) (fun j hj => by rw [hr j hj]))
theorem wl_P {D : va_G} {cy ad : Nat → Nat} {RR : Nat → Nat → Option Nat} {M : Mem} {L : List Nat} {H : Heap} : va_P D vwCl (wl cy ad RR M L) H ↔ ∀ c ∈ L, va_at D vwCl (ad c, cel cy ad RR M c) H := by
  constructor
  · intro h c hc
    obtain ⟨k, hk⟩ := wl_get (cy := cy) (ad := ad) (RR := RR) (M := M) hc
    exact h k _ hk
  · intro h k q hk
    obtain ⟨c, hc, rfl⟩ := List.mem_map.mp (List.mem_of_getElem? hk)
    exact h c hc
theorem va_D_ad {A : Nat → Prop} {ws ws' : va_W} (hD : va_D A ws) (h : ws'.map Prod.fst = ws.map Prod.fst) : va_D A ws' := by
  have g : ∀ (k : Nat) (q : Nat × va_E), ws'[k]? = some q → ∃ q', ws[k]? = some q' ∧ q'.1 = q.1 := by
    intro k q hk
    have h1 : (ws'.map Prod.fst)[k]? = some q.1 := by rw [List.getElem?_map, hk]; rfl
    rw [h, List.getElem?_map] at h1
    cases hq : ws[k]? with
    | none => rw [hq] at h1; cases h1
    | some q' => rw [hq] at h1; exact ⟨q', rfl, Option.some.inj h1⟩
  constructor
  · intro i j p q hi hj e
    obtain ⟨p', hp, e1⟩ := g i p hi
    obtain ⟨q', hq, e2⟩ := g j q hj
    exact hD.1 i j p' q' hp hq (by rw [e1, e2, e])
  · intro k q hk
    obtain ⟨q', hq, e1⟩ := g k q hk
    rw [← e1]
    exact hD.2 k q' hq
theorem at_ref {D : va_G} {a cA n : Nat} {f g : Nat → Option Nat} {H : Heap} (h : va_at D vwCl (a, .inl (cA, n, .inr (.inr (.inr (.inr f))))) H) (e : ∀ j, j < n → g j = f j) : va_at D vwCl (a, .inl (cA, n, .inr (.inr (.inr (.inr g))))) H := by
  have h : H[a]? = some (arrV cA n (fun j => va_rf (f j))) := h
  show H[a]? = some (arrV cA n (fun j => va_rf (g j)))
  rw [h]
  congr 1
  exact arrV_congr (fun j hj => by rw [e j hj])
