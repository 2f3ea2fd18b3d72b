section QF
variable {l : Launch} {rm : Room} {D : va_G} {cy ad : Nat → Nat} {M : Mem} {L : List Nat} {y : MethodName} {bytes : ByteArray} {maxL : Nat} {ret : Option FieldType} {Qc : Array Value → State → Outcome → State → Prop}
theorem q_startF {sz : Nat} {av : List Value} (hy : plainFor y = true) (hlen : (lg_sl av).length ≤ maxL)
    (body : ∀ (p : Program) (e : Env) (s : State) (m : MethodId) (below : List Frame) (meth : Method) (c : Code) (H : Heap) (locs : List Loc) (ls : Array Slot), sz = s.heap.size → p.tables.exec = Jvm.exec → c.code = bytes → meth.sig.returnType = ret → meth.locks = false → c.maxLocals = maxL → s.vm.findClass y.cls = some m.cls → (∀ w ∈ BG, w.before av.toArray s = true) → KK D cy L s → EX (fA ad L s.heap.size) s → Cx D cy ad R0 L (fA ad L s.heap.size) s M H locs → lv_has ls maxL (lv_args 0 av) →
      W p l e rm s m av.toArray below meth c H locs 0 0 (MQ below Qc av.toArray s 0 0 (fA ad L s.heap.size)) (F0 m 0 ls [])) : Met l y (Cond.code y bytes maxL ret :: BG) rm (va_Pc av (PW D cy ad L M sz)) Qc 0 0 (fA ad L sz) := by
  refine va_MetF (cc := bytes) (maxL := maxL) (ret := ret) hy rfl ?_
  intro p e s m args below meth c s₁ B hml hv
  obtain ⟨rfl, hsz, hP, hK, hD0, hE⟩ := hv
  subst hsz
  have hts := atoms_spec (ws := Cond.code y bytes maxL ret :: BG) B.pre
  have hl := lv_entry av (n := maxL) hlen
  rw [lg_entry_eq]
  exact body p e s m below meth c _ _ _ rfl B.exec B.bytes B.returns B.notSynchronized hml (findClass_of_methodNamed B.named) (fun w h => hts w (List.mem_cons_of_mem _ h)) hK hE ⟨hP, wl_self hD0, va_S.rf⟩ hl
end QF
