/-! A thrown object, met by this method's own table: rows ahead that name other classes are passed, each links its class as it is asked. -/
theorem hx_row {Q : Handler → Pre} {E : CtlPost} {e : Env} {d : Bool} {acts : List Action} {s : State} {f : JFrame} {a : Addr} {y : ExceptionTableEntry} {t : List ExceptionTableEntry} {k : ClassId} {cell : Cell} (hy : covers y f.pc = true) (h0 : y.catchType ≠ 0) (hl : s.vm.ClassLinks e.platform f.method.cls y.catchType k) (hcell : s.heap[a]? = some cell) (hobj : ∀ z, cell.vm ≠ .statics z) (hk : ∃ z, s.vm.classes[cell.cls]? = some z) (hc : ∃ z, s.vm.classes[k]? = some z) (b : Bool) (hb : s.vm.assignable cell.cls k = b) :
    Sem.wp (findHandler.go f a (y :: t)) Q E e d acts s ↔ (if b = true then Q (.found y.handlerPc) d acts (s.setVm (s.vm.noted f.method.cls y.catchType (.cls k))) else Sem.wp (findHandler.go f a t) Q E e d acts (s.setVm (s.vm.noted f.method.cls y.catchType (.cls k)))) := by
  have hal : s.vm.Alike (s.vm.noted f.method.cls y.catchType (.cls k)) := (Vm.Alike.refl s.vm).noted _ _ _
  obtain ⟨g1, g2⟩ := (resolveClass_links e.toSetting hl).op (op := VmOp.resolveClass f.method.cls y.catchType) rfl
  obtain ⟨z1, hz1⟩ := hk
  obtain ⟨z2, hz2⟩ := hc
  obtain ⟨z3, hz3, -⟩ := hal.2.2 _ _ hz1
  obtain ⟨z4, hz4, -⟩ := hal.2.2 _ _ hz2
  have hb2 : (s.vm.noted f.method.cls y.catchType (.cls k)).assignable cell.cls k = b := by rw [hal.assignable]; exact hb
  simp only [covers] at hy
  sorry
