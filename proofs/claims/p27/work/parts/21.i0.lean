theorem in_X3_init : ∀ w ∈ u_ws RX3 TX3 1, w ∈ wsX3_init := fun _ h => xt1 (xr (h))
set_option maxHeartbeats 8000000 in
set_option maxRecDepth 100000 in
theorem iX3 (l : Launch) (D : va_G) (cA : Nat → ClassId) (h0 sz : Nat) : Met l yX3_init wsX3_init ({ frames := 1, cells := 1, slots := 5, locals := 12 }) (va_Pc [.ref h0] (fun U => U.heap.size = sz ∧ va_P D vwCl [(h0, .inr (3, [.null]))] U.heap ∧ va_K D vwCl (hy_ty cA) U ∧ va_D (fun _ => True) [(h0, .inr (3, [.null]))])) (va_Qv (fun _ : Unit => True) (fun _ t => ∃ (q0 : Nat), va_P D vwCl [(h0, .inr (3, [.ref q0])), (q0, .inl (cA 0, 5, .inl (fun _ => 0)))] t.heap ∧ va_D (va_A [(h0, .inr (3, [.null]))] sz) [(h0, .inr (3, [.ref q0])), (q0, .inl (cA 0, 5, .inl (fun _ => 0)))]) (va_A [(h0, .inr (3, [.null]))] sz)) 1 5 (va_A [(h0, .inr (3, [.null]))] sz) := by
  refine Met.ofW (cc := cX3_init) (maxL := 1) (ret := none) (by decide +kernel) rfl ?_
  intro p e s m args below meth c s₁ B hml hv
  obtain ⟨rfl, hsz, hP, hK, hD0⟩ := hv
  have hx := B.exec
  have hb := B.bytes
  have hr := B.returns
  have hts := atoms_spec (ws := wsX3_init) B.pre
  have hown : s.vm.findClass RX3 = some m.cls := findClass_of_methodNamed B.named
  have hlocks := B.notSynchronized
  have hin : meth.name = "<init>" := (name_of_methodNamed B.named B.method).1
  subst hsz
  have hD := hD0.self (sz := s.heap.size)
  generalize hAe : va_A [(h0, .inr (3, [.null]))] s.heap.size = A at hD ⊢
  have hA : ∀ q : Nat, s.heap.size ≤ q → A q := fun q h => by rw [← hAe]; exact Or.inr h
  have hS : va_S A s.heap s.heap [] := va_S.rf
  have hl := lv_entry ([.ref h0]) (n := 1) (Nat.le_of_ble_eq_true rfl)
  rw [lg_entry_eq]
  generalize (lg_sl ([.ref h0]) ++ List.replicate (1 - (lg_sl ([.ref h0])).length) Slot.unset).toArray = ls at hl ⊢
  have hl : lv_has ls 1 [(0, .ref h0)] := hl
  refine lv_aload_n hx hb dX3_init_0 rfl (lv_at hl 0 rfl) ?_
  refine W.objInit hx hb hown (hts (.methodLink RX3 3 objectInit) (xt1 (xl (xh)))) (hts (.instanceMethod objectInit) (xt1 (xl (xt1 (xh))))) (hts _ (List.mem_of_getElem? (i := 3) rfl)) rfl (by rw [hml]; exact hl.1) rfl dX3_init_1 (Nat.le_of_ble_eq_true rfl) (Nat.le_of_ble_eq_true rfl) ?_
  refine W.eq (g2 := F0 m 4 ls []) rfl ?_
  refine lv_aload_n hx hb dX3_init_4 rfl (lv_at hl 0 rfl) ?_
  refine lv_iconst (v := 5) hx hb dX3_init_5 (by decide) ?_
  refine hy_newa (atype := .int) (ty := .int) (a0 := (5, .inl (fun _ => 0))) hx hb (hts (.arrayClass .int) (xt1 (xl (xt1 (xt1 (xt1 (xh))))))) rfl hK hP hD hS hA 0 rfl hy_oneI (fun _ => rfl) (by decide) (by decide) (by decide) (Nat.le_of_ble_eq_true rfl) (Nat.le_of_ble_eq_true rfl) dX3_init_6 (fun q0 H hP hD hS => ?_)
  have hP : va_P D vwCl [(h0, .inr (3, [.null])), (q0, .inl (cA 0, 5, .inl (fun _ => 0)))] H := hP
  have hD : va_D A [(h0, .inr (3, [.null])), (q0, .inl (cA 0, 5, .inl (fun _ => 0)))] := hD
  refine W.widen (k := 1) (n := 5) (Nat.le_of_ble_eq_true rfl) (Nat.le_of_ble_eq_true rfl) ?_
  refine va_putF (D := D) (ci := 3) (v := .ref q0) (ty := .array .int) (C := RX3) (T := TX3) (N := 1) hx hb hts in_X3_init tyX3 tyX3_ok nmX3 hown hK hP hD hS 0 rfl rfl 0 (by decide) (hts (.fieldLink RX3 11 "AmphoraYard$Note" "numbers" "[I") (xt1 (xl (xt4 (xh))))) (fun _ h9 => h9) rfl hin rfl (by decide +kernel) rfl rfl (Nat.le_of_ble_eq_true rfl) dX3_init_8 (fun H locs hP hD hS => ?_)
  have hP : va_P D vwCl [(h0, .inr (3, [.ref q0])), (q0, .inl (cA 0, 5, .inl (fun _ => 0)))] H := hP
  have hD : va_D A [(h0, .inr (3, [.ref q0])), (q0, .inl (cA 0, 5, .inl (fun _ => 0)))] := hD
  refine W.widen (k := 1) (n := 5) (Nat.le_of_ble_eq_true rfl) (Nat.le_of_ble_eq_true rfl) ?_
  exact W.vret hx hb hr (fun t ht hW => ⟨⟨(), rfl, trivial, q0, by rw [ht]; exact hP, hD⟩, hS.F ht⟩) hS.2.2 dX3_init_11
