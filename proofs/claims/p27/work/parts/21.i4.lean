theorem in_X0_init : ∀ w ∈ u_ws RX0 TX0 4, w ∈ wsX0_init := fun _ h => xt1 (xr (h))
set_option maxHeartbeats 8000000 in
set_option maxRecDepth 100000 in
theorem iX0 (l : Launch) (D : va_G) (cA : Nat → ClassId) (h0 sz : Nat) (r1 : Nat) : Met l yX0_init wsX0_init ({ frames := 1, cells := 2, slots := 264, locals := 12 }) (va_Pc [.ref h0, .ref r1] (fun U => U.heap.size = sz ∧ va_P D vwCl [(h0, .inr (0, [.null, .null, .null, .int 0]))] U.heap ∧ va_K D vwCl (hy_ty cA) U ∧ va_D (fun _ => True) [(h0, .inr (0, [.null, .null, .null, .int 0]))])) (va_Qv (fun _ : Unit => True) (fun _ t => ∃ (q0 q1 : Nat), va_P D vwCl [(h0, .inr (0, [.ref r1, .ref q0, .ref q1, .int 0])), (q0, .inl (cA 0, 240, .inl (fun _ => 0))), (q1, .inl (cA 0, 24, .inl (fun _ => 0)))] t.heap ∧ va_D (va_A [(h0, .inr (0, [.null, .null, .null, .int 0]))] sz) [(h0, .inr (0, [.ref r1, .ref q0, .ref q1, .int 0])), (q0, .inl (cA 0, 240, .inl (fun _ => 0))), (q1, .inl (cA 0, 24, .inl (fun _ => 0)))]) (va_A [(h0, .inr (0, [.null, .null, .null, .int 0]))] sz)) 2 264 (va_A [(h0, .inr (0, [.null, .null, .null, .int 0]))] sz) := by
  refine Met.ofW (cc := cX0_init) (maxL := 2) (ret := none) (by decide +kernel) rfl ?_
  intro p e s m args below meth c s₁ B hml hv
  obtain ⟨rfl, hsz, hP, hK, hD0⟩ := hv
  have hx := B.exec
  have hb := B.bytes
  have hr := B.returns
  have hts := atoms_spec (ws := wsX0_init) B.pre
  have hown : s.vm.findClass RX0 = some m.cls := findClass_of_methodNamed B.named
  have hlocks := B.notSynchronized
  have hin : meth.name = "<init>" := (name_of_methodNamed B.named B.method).1
  subst hsz
  have hD := hD0.self (sz := s.heap.size)
  generalize hAe : va_A [(h0, .inr (0, [.null, .null, .null, .int 0]))] s.heap.size = A at hD ⊢
  have hA : ∀ q : Nat, s.heap.size ≤ q → A q := fun q h => by rw [← hAe]; exact Or.inr h
  have hS : va_S A s.heap s.heap [] := va_S.rf
  have hl := lv_entry ([.ref h0, .ref r1]) (n := 2) (Nat.le_of_ble_eq_true rfl)
  rw [lg_entry_eq]
  generalize (lg_sl ([.ref h0, .ref r1]) ++ List.replicate (2 - (lg_sl ([.ref h0, .ref r1])).length) Slot.unset).toArray = ls at hl ⊢
  have hl : lv_has ls 2 [(0, .ref h0), (1, .ref r1)] := hl
  refine lv_aload_n hx hb dX0_init_0 rfl (lv_at hl 0 rfl) ?_
  refine W.objInit hx hb hown (hts (.methodLink RX0 3 objectInit) (xt1 (xl (xh)))) (hts (.instanceMethod objectInit) (xt1 (xl (xt1 (xh))))) (hts _ (List.mem_of_getElem? (i := 3) rfl)) rfl (by rw [hml]; exact hl.1) rfl dX0_init_1 (Nat.le_of_ble_eq_true rfl) (Nat.le_of_ble_eq_true rfl) ?_
  refine W.eq (g2 := F0 m 4 ls []) rfl ?_
  refine lv_aload_n hx hb dX0_init_4 rfl (lv_at hl 0 rfl) ?_
  refine lv_aload_n hx hb dX0_init_5 rfl (lv_at hl 1 rfl) ?_
  refine va_putF (D := D) (ci := 0) (v := .ref r1) (ty := .object "AmphoraYard$Jars") (C := RX0) (T := TX0) (N := 4) hx hb hts in_X0_init tyX0 tyX0_ok nmX0 hown hK hP hD hS 0 rfl rfl 0 (by decide) (hts (.fieldLink RX0 9 "AmphoraYard$Fleet" "jars" "LAmphoraYard$Jars;") (xt1 (xl (xt1 (xt1 (xt1 (xh))))))) (fun _ h9 => h9) rfl hin rfl (by decide +kernel) rfl rfl (Nat.le_of_ble_eq_true rfl) dX0_init_6 (fun H locs hP hD hS => ?_)
  have hP : va_P D vwCl [(h0, .inr (0, [.ref r1, .null, .null, .int 0]))] H := hP
  have hD : va_D A [(h0, .inr (0, [.ref r1, .null, .null, .int 0]))] := hD
  refine lv_aload_n hx hb dX0_init_9 rfl (lv_at hl 0 rfl) ?_
  refine lv_sipush (v := 240) hx hb dX0_init_10 (by decide) ?_
  refine hy_newa (atype := .int) (ty := .int) (a0 := (240, .inl (fun _ => 0))) hx hb (hts (.arrayClass .int) (xt1 (xl (xt4 (xh))))) rfl hK hP hD hS hA 0 rfl hy_oneI (fun _ => rfl) (by decide) (by decide) (by decide) (Nat.le_of_ble_eq_true rfl) (Nat.le_of_ble_eq_true rfl) dX0_init_13 (fun q0 H hP hD hS => ?_)
  have hP : va_P D vwCl [(h0, .inr (0, [.ref r1, .null, .null, .int 0])), (q0, .inl (cA 0, 240, .inl (fun _ => 0)))] H := hP
  have hD : va_D A [(h0, .inr (0, [.ref r1, .null, .null, .int 0])), (q0, .inl (cA 0, 240, .inl (fun _ => 0)))] := hD
  refine W.widen (k := 1) (n := 240) (Nat.le_of_ble_eq_true rfl) (Nat.le_of_ble_eq_true rfl) ?_
  refine va_putF (D := D) (ci := 0) (v := .ref q0) (ty := .array .int) (C := RX0) (T := TX0) (N := 4) hx hb hts in_X0_init tyX0 tyX0_ok nmX0 hown hK hP hD hS 0 rfl rfl 1 (by decide) (hts (.fieldLink RX0 15 "AmphoraYard$Fleet" "stacked" "[I") (xt1 (xl (xt4 (xt1 (xh)))))) (fun _ h9 => h9) rfl hin rfl (by decide +kernel) rfl rfl (Nat.le_of_ble_eq_true rfl) dX0_init_15 (fun H locs hP hD hS => ?_)
  have hP : va_P D vwCl [(h0, .inr (0, [.ref r1, .ref q0, .null, .int 0])), (q0, .inl (cA 0, 240, .inl (fun _ => 0)))] H := hP
  have hD : va_D A [(h0, .inr (0, [.ref r1, .ref q0, .null, .int 0])), (q0, .inl (cA 0, 240, .inl (fun _ => 0)))] := hD
  refine lv_aload_n hx hb dX0_init_18 rfl (lv_at hl 0 rfl) ?_
  refine lv_bipush (v := 24) hx hb dX0_init_19 (by decide) ?_
  refine hy_newa (atype := .int) (ty := .int) (a0 := (24, .inl (fun _ => 0))) hx hb (hts (.arrayClass .int) (xt1 (xl (xt4 (xh))))) rfl hK hP hD hS hA 0 rfl hy_oneI (fun _ => rfl) (by decide) (by decide) (by decide) (Nat.le_of_ble_eq_true rfl) (Nat.le_of_ble_eq_true rfl) dX0_init_21 (fun q1 H hP hD hS => ?_)
  have hP : va_P D vwCl [(h0, .inr (0, [.ref r1, .ref q0, .null, .int 0])), (q0, .inl (cA 0, 240, .inl (fun _ => 0))), (q1, .inl (cA 0, 24, .inl (fun _ => 0)))] H := hP
  have hD : va_D A [(h0, .inr (0, [.ref r1, .ref q0, .null, .int 0])), (q0, .inl (cA 0, 240, .inl (fun _ => 0))), (q1, .inl (cA 0, 24, .inl (fun _ => 0)))] := hD
  refine W.widen (k := 2) (n := 264) (Nat.le_of_ble_eq_true rfl) (Nat.le_of_ble_eq_true rfl) ?_
  refine va_putF (D := D) (ci := 0) (v := .ref q1) (ty := .array .int) (C := RX0) (T := TX0) (N := 4) hx hb hts in_X0_init tyX0 tyX0_ok nmX0 hown hK hP hD hS 0 rfl rfl 2 (by decide) (hts (.fieldLink RX0 19 "AmphoraYard$Fleet" "height" "[I") (xt1 (xl (xt4 (xt1 (xt1 (xh))))))) (fun _ h9 => h9) rfl hin rfl (by decide +kernel) rfl rfl (Nat.le_of_ble_eq_true rfl) dX0_init_23 (fun H locs hP hD hS => ?_)
  have hP : va_P D vwCl [(h0, .inr (0, [.ref r1, .ref q0, .ref q1, .int 0])), (q0, .inl (cA 0, 240, .inl (fun _ => 0))), (q1, .inl (cA 0, 24, .inl (fun _ => 0)))] H := hP
  have hD : va_D A [(h0, .inr (0, [.ref r1, .ref q0, .ref q1, .int 0])), (q0, .inl (cA 0, 240, .inl (fun _ => 0))), (q1, .inl (cA 0, 24, .inl (fun _ => 0)))] := hD
  refine lv_aload_n hx hb dX0_init_26 rfl (lv_at hl 0 rfl) ?_
  refine lv_iconst (v := 0) hx hb dX0_init_27 (by decide) ?_
  refine va_put (D := D) (ci := 0) (v := .int 0) (ty := .int) (C := RX0) (T := TX0) (N := 4) hx hb hts in_X0_init tyX0 tyX0_ok nmX0 hown hK hP hD hS 0 rfl rfl 3 (by decide) (hts (.fieldLink RX0 22 "AmphoraYard$Fleet" "size" "I") (xt1 (xl (xt4 (xt1 (xt1 (xt1 (xh)))))))) (fun _ h9 => h9) rfl (by decide +kernel) rfl rfl (Nat.le_of_ble_eq_true rfl) dX0_init_28 (fun H locs hP hD hS => ?_)
  have hP : va_P D vwCl [(h0, .inr (0, [.ref r1, .ref q0, .ref q1, .int 0])), (q0, .inl (cA 0, 240, .inl (fun _ => 0))), (q1, .inl (cA 0, 24, .inl (fun _ => 0)))] H := hP
  have hD : va_D A [(h0, .inr (0, [.ref r1, .ref q0, .ref q1, .int 0])), (q0, .inl (cA 0, 240, .inl (fun _ => 0))), (q1, .inl (cA 0, 24, .inl (fun _ => 0)))] := hD
  refine W.widen (k := 2) (n := 264) (Nat.le_of_ble_eq_true rfl) (Nat.le_of_ble_eq_true rfl) ?_
  exact W.vret hx hb hr (fun t ht hW => ⟨⟨(), rfl, trivial, q0, q1, by rw [ht]; exact hP, hD⟩, hS.F ht⟩) hS.2.2 dX0_init_31
