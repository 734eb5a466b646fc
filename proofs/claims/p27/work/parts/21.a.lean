
noncomputable def hy_ty (cA : Nat → ClassId) : List (ClassId × FieldType) := [(cA 0, .int), (cA 1, .byte), (cA 2, .boolean), (cA 3, .long)]
section HYI
variable {p : Program} {l : Launch} {e : Env} {R : Room} {s : State} {m : MethodId} {args : Array Value} {below : List Frame} {meth : Method} {c : Code} {H : Heap} {locs : List Loc} {cells slots : Nat} {Q : State → Prop} {cc : ByteArray} {pc : Nat} {ls : Array Slot} {rest : List Value} {D : va_G} {cl : List vw_C} {A : Nat → Prop} {ws : va_W} {H0 : Heap} {tys : List (ClassId × FieldType)}
theorem hy_newa (hexec : p.tables.exec = Jvm.exec) (hb : c.code = cc) {atype : ArrayType} (harr : (Cond.arrayClass (newarray.typeOf atype)).before args s = true) {ty : FieldType} (hty : newarray.typeOf atype = ty) (hK : va_K D cl tys s) (hP : va_P D cl ws H) (hD : va_D A ws) (hS : va_S A H0 H locs) (hA : ∀ q, H0.size ≤ q → A q) (t0 : Nat) {cA0 : ClassId} (ht : tys[t0]? = some (cA0, ty)) (hone : ∀ c1 c2 : ClassId, va_RA s c1 ty → va_RA s c2 ty → c1 = c2)
    {n : Int32} {N' : Nat} {a0 : vp_A} (ha : ∀ cA : ClassId, vp_cell cA a0 = arrV cA N' (fun _ => defaultValue ty)) (hn : ¬ n < 0) (hN : n.toNatClampNeg = N') (hbytes : N' * componentBytes ty ≤ 536870912) (hcells : cells + 1 ≤ R.cells) (hslots : slots + N' ≤ R.slots) (hdg : decode cc pc = .ok (.newarray atype, 2))
    (kk : ∀ (q : Nat) (H1 : Heap), va_P D cl (ws ++ [(q, .inl (cA0, a0))]) H1 → va_D A (ws ++ [(q, .inl (cA0, a0))]) → va_S A H0 H1 locs → W p l e R s m args below meth c H1 locs (cells + 1) (slots + N') Q (F0 m (pc + 2) ls (.ref q :: rest))) : W p l e R s m args below meth c H locs cells slots Q (F0 m pc ls (.int n :: rest)) := by
  refine va_newa hexec hb harr hty hK hP hD hS hA ha hn hN hbytes hcells hslots hdg (fun q cA H1 hK1 hP1 hD1 hS1 => ?_)
  have h1 := (hK1.2 tys.length (cA, ty) (by rw [List.getElem?_append_right (Nat.le_refl _), Nat.sub_self]; rfl)).2
  have e := hone _ _ h1 (hK.2 t0 _ ht).2
  subst e
  exact kk q H1 hP1 hD1 hS1
end HYI
theorem hy_oneI {s : State} (c1 c2 : ClassId) (h1 : va_RA s c1 .int) (h2 : va_RA s c2 .int) : c1 = c2 := Option.some.inj (Eq.trans (Eq.symm h1) h2)
theorem hy_oneB {s : State} (c1 c2 : ClassId) (h1 : va_RA s c1 .byte) (h2 : va_RA s c2 .byte) : c1 = c2 := Option.some.inj (Eq.trans (Eq.symm h1) h2)
theorem hy_oneZ {s : State} (c1 c2 : ClassId) (h1 : va_RA s c1 .boolean) (h2 : va_RA s c2 .boolean) : c1 = c2 := Option.some.inj (Eq.trans (Eq.symm h1) h2)
theorem hy_oneL {s : State} (c1 c2 : ClassId) (h1 : va_RA s c1 .long) (h2 : va_RA s c2 .long) : c1 = c2 := Option.some.inj (Eq.trans (Eq.symm h1) h2)

