theorem in_X5_init : ∀ w ∈ u_ws RX5 TX5 5, w ∈ wsX5_init := fun _ h => xt1 (xr (h))
set_option maxHeartbeats 8000000 in
set_option maxRecDepth 100000 in
theorem iX5 (l : Launch) (D : va_G) (cA : Nat → ClassId) (h0 sz : Nat) : Met l yX5_init wsX5_init ({ frames := 1, cells := 4, slots := 240, locals := 12 }) (va_Pc [.ref h0] (fun U => U.heap.size = sz ∧ va_P D vwCl [(h0, .inr (5, [.null, .null, .null, .null, .int 0]))] U.heap ∧ va_K D vwCl (hy_ty cA) U ∧ va_D (fun _ => True) [(h0, .inr (5, [.null, .null, .null, .null, .int 0]))])) (va_Qv (fun _ : Unit => True) (fun _ t => ∃ (q0 q1 q2 q3 : Nat), va_P D vwCl [(h0, .inr (5, [.ref q0, .ref q1, .ref q2, .ref q3, .int 0])), (q0, .inl (cA 0, 60, .inl (fun _ => 0))), (q1, .inl (cA 0, 60, .inl (fun _ => 0))), (q2, .inl (cA 0, 60, .inl (fun _ => 0))), (q3, .inl (cA 0, 60, .inl (fun _ => 0)))] t.heap ∧ va_D (va_A [(h0, .inr (5, [.null, .null, .null, .null, .int 0]))] sz) [(h0, .inr (5, [.ref q0, .ref q1, .ref q2, .ref q3, .int 0])), (q0, .inl (cA 0, 60, .inl (fun _ => 0))), (q1, .inl (cA 0, 60, .inl (fun _ => 0))), (q2, .inl (cA 0, 60, .inl (fun _ => 0))), (q3, .inl (cA 0, 60, .inl (fun _ => 0)))]) (va_A [(h0, .inr (5, [.null, .null, .null, .null, .int 0]))] sz)) 4 240 (va_A [(h0, .inr (5, [.null, .null, .null, .null, .int 0]))] sz) := by
  refine Met.ofW (cc := cX5_init) (maxL := 1) (ret := none) (by decide +kernel) rfl ?_
  intro p e s m args below meth c s₁ B hml hv
  obtain ⟨rfl, hsz, hP, hK, hD0⟩ := hv
  have hx := B.exec
  have hb := B.bytes
  have hr := B.returns
  have hts := atoms_spec (ws := wsX5_init) B.pre
  have hown : s.vm.findClass RX5 = some m.cls := findClass_of_methodNamed B.named
  have hlocks := B.notSynchronized
  have hin : meth.name = "<init>" := (name_of_methodNamed B.named B.method).1
  subst hsz
  have hD := hD0.self (sz := s.heap.size)
  generalize hAe : va_A [(h0, .inr (5, [.null, .null, .null, .null, .int 0]))] s.heap.size = A at hD ⊢
  have hA : ∀ q : Nat, s.heap.size ≤ q → A q := fun q h => by rw [← hAe]; exact Or.inr h
  have hS : va_S A s.heap s.heap [] := va_S.rf
  have hl := lv_entry ([.ref h0]) (n := 1) (Nat.le_of_ble_eq_true rfl)
  rw [lg_entry_eq]
  generalize (lg_sl ([.ref h0]) ++ List.replicate (1 - (lg_sl ([.ref h0])).length) Slot.unset).toArray = ls at hl ⊢
  have hl : lv_has ls 1 [(0, .ref h0)] := hl
  refine lv_aload_n hx hb dX5_init_0 rfl (lv_at hl 0 rfl) ?_
  refine W.objInit hx hb hown (hts (.methodLink RX5 3 objectInit) (xt1 (xl (xh)))) (hts (.instanceMethod objectInit) (xt1 (xl (xt1 (xh))))) (hts _ (List.mem_of_getElem? (i := 3) rfl)) rfl (by rw [hml]; exact hl.1) rfl dX5_init_1 (Nat.le_of_ble_eq_true rfl) (Nat.le_of_ble_eq_true rfl) ?_
  refine W.eq (g2 := F0 m 4 ls []) rfl ?_
  refine lv_aload_n hx hb dX5_init_4 rfl (lv_at hl 0 rfl) ?_
  refine lv_bipush (v := 60) hx hb dX5_init_5 (by decide) ?_
  refine hy_newa (atype := .int) (ty := .int) (a0 := (60, .inl (fun _ => 0))) hx hb (hts (.arrayClass .int) (xt1 (xl (xt1 (xt1 (xt1 (xh))))))) rfl hK hP hD hS hA 0 rfl hy_oneI (fun _ => rfl) (by decide) (by decide) (by decide) (Nat.le_of_ble_eq_true rfl) (Nat.le_of_ble_eq_true rfl) dX5_init_7 (fun q0 H hP hD hS => ?_)
  have hP : va_P D vwCl [(h0, .inr (5, [.null, .null, .null, .null, .int 0])), (q0, .inl (cA 0, 60, .inl (fun _ => 0)))] H := hP
  have hD : va_D A [(h0, .inr (5, [.null, .null, .null, .null, .int 0])), (q0, .inl (cA 0, 60, .inl (fun _ => 0)))] := hD
  refine W.widen (k := 1) (n := 60) (Nat.le_of_ble_eq_true rfl) (Nat.le_of_ble_eq_true rfl) ?_
  refine va_putF (D := D) (ci := 5) (v := .ref q0) (ty := .array .int) (C := RX5) (T := TX5) (N := 5) hx hb hts in_X5_init tyX5 tyX5_ok nmX5 hown hK hP hD hS 0 rfl rfl 0 (by decide) (hts (.fieldLink RX5 11 "AmphoraYard$Sherds" "first" "[I") (xt1 (xl (xt4 (xh))))) (fun _ h9 => h9) rfl hin rfl (by decide +kernel) rfl rfl (Nat.le_of_ble_eq_true rfl) dX5_init_9 (fun H locs hP hD hS => ?_)
  have hP : va_P D vwCl [(h0, .inr (5, [.ref q0, .null, .null, .null, .int 0])), (q0, .inl (cA 0, 60, .inl (fun _ => 0)))] H := hP
  have hD : va_D A [(h0, .inr (5, [.ref q0, .null, .null, .null, .int 0])), (q0, .inl (cA 0, 60, .inl (fun _ => 0)))] := hD
  refine lv_aload_n hx hb dX5_init_12 rfl (lv_at hl 0 rfl) ?_
  refine lv_bipush (v := 60) hx hb dX5_init_13 (by decide) ?_
  refine hy_newa (atype := .int) (ty := .int) (a0 := (60, .inl (fun _ => 0))) hx hb (hts (.arrayClass .int) (xt1 (xl (xt1 (xt1 (xt1 (xh))))))) rfl hK hP hD hS hA 0 rfl hy_oneI (fun _ => rfl) (by decide) (by decide) (by decide) (Nat.le_of_ble_eq_true rfl) (Nat.le_of_ble_eq_true rfl) dX5_init_15 (fun q1 H hP hD hS => ?_)
  have hP : va_P D vwCl [(h0, .inr (5, [.ref q0, .null, .null, .null, .int 0])), (q0, .inl (cA 0, 60, .inl (fun _ => 0))), (q1, .inl (cA 0, 60, .inl (fun _ => 0)))] H := hP
  have hD : va_D A [(h0, .inr (5, [.ref q0, .null, .null, .null, .int 0])), (q0, .inl (cA 0, 60, .inl (fun _ => 0))), (q1, .inl (cA 0, 60, .inl (fun _ => 0)))] := hD
  refine W.widen (k := 2) (n := 120) (Nat.le_of_ble_eq_true rfl) (Nat.le_of_ble_eq_true rfl) ?_
  refine va_putF (D := D) (ci := 5) (v := .ref q1) (ty := .array .int) (C := RX5) (T := TX5) (N := 5) hx hb hts in_X5_init tyX5 tyX5_ok nmX5 hown hK hP hD hS 0 rfl rfl 1 (by decide) (hts (.fieldLink RX5 15 "AmphoraYard$Sherds" "members" "[I") (xt1 (xl (xt4 (xt1 (xh)))))) (fun _ h9 => h9) rfl hin rfl (by decide +kernel) rfl rfl (Nat.le_of_ble_eq_true rfl) dX5_init_17 (fun H locs hP hD hS => ?_)
  have hP : va_P D vwCl [(h0, .inr (5, [.ref q0, .ref q1, .null, .null, .int 0])), (q0, .inl (cA 0, 60, .inl (fun _ => 0))), (q1, .inl (cA 0, 60, .inl (fun _ => 0)))] H := hP
  have hD : va_D A [(h0, .inr (5, [.ref q0, .ref q1, .null, .null, .int 0])), (q0, .inl (cA 0, 60, .inl (fun _ => 0))), (q1, .inl (cA 0, 60, .inl (fun _ => 0)))] := hD
  refine lv_aload_n hx hb dX5_init_20 rfl (lv_at hl 0 rfl) ?_
  refine lv_bipush (v := 60) hx hb dX5_init_21 (by decide) ?_
  refine hy_newa (atype := .int) (ty := .int) (a0 := (60, .inl (fun _ => 0))) hx hb (hts (.arrayClass .int) (xt1 (xl (xt1 (xt1 (xt1 (xh))))))) rfl hK hP hD hS hA 0 rfl hy_oneI (fun _ => rfl) (by decide) (by decide) (by decide) (Nat.le_of_ble_eq_true rfl) (Nat.le_of_ble_eq_true rfl) dX5_init_23 (fun q2 H hP hD hS => ?_)
  have hP : va_P D vwCl [(h0, .inr (5, [.ref q0, .ref q1, .null, .null, .int 0])), (q0, .inl (cA 0, 60, .inl (fun _ => 0))), (q1, .inl (cA 0, 60, .inl (fun _ => 0))), (q2, .inl (cA 0, 60, .inl (fun _ => 0)))] H := hP
  have hD : va_D A [(h0, .inr (5, [.ref q0, .ref q1, .null, .null, .int 0])), (q0, .inl (cA 0, 60, .inl (fun _ => 0))), (q1, .inl (cA 0, 60, .inl (fun _ => 0))), (q2, .inl (cA 0, 60, .inl (fun _ => 0)))] := hD
  refine W.widen (k := 3) (n := 180) (Nat.le_of_ble_eq_true rfl) (Nat.le_of_ble_eq_true rfl) ?_
  refine va_putF (D := D) (ci := 5) (v := .ref q2) (ty := .array .int) (C := RX5) (T := TX5) (N := 5) hx hb hts in_X5_init tyX5 tyX5_ok nmX5 hown hK hP hD hS 0 rfl rfl 2 (by decide) (hts (.fieldLink RX5 18 "AmphoraYard$Sherds" "clay" "[I") (xt1 (xl (xt4 (xt1 (xt1 (xh))))))) (fun _ h9 => h9) rfl hin rfl (by decide +kernel) rfl rfl (Nat.le_of_ble_eq_true rfl) dX5_init_25 (fun H locs hP hD hS => ?_)
  have hP : va_P D vwCl [(h0, .inr (5, [.ref q0, .ref q1, .ref q2, .null, .int 0])), (q0, .inl (cA 0, 60, .inl (fun _ => 0))), (q1, .inl (cA 0, 60, .inl (fun _ => 0))), (q2, .inl (cA 0, 60, .inl (fun _ => 0)))] H := hP
  have hD : va_D A [(h0, .inr (5, [.ref q0, .ref q1, .ref q2, .null, .int 0])), (q0, .inl (cA 0, 60, .inl (fun _ => 0))), (q1, .inl (cA 0, 60, .inl (fun _ => 0))), (q2, .inl (cA 0, 60, .inl (fun _ => 0)))] := hD
  refine lv_aload_n hx hb dX5_init_28 rfl (lv_at hl 0 rfl) ?_
  refine lv_bipush (v := 60) hx hb dX5_init_29 (by decide) ?_
  refine hy_newa (atype := .int) (ty := .int) (a0 := (60, .inl (fun _ => 0))) hx hb (hts (.arrayClass .int) (xt1 (xl (xt1 (xt1 (xt1 (xh))))))) rfl hK hP hD hS hA 0 rfl hy_oneI (fun _ => rfl) (by decide) (by decide) (by decide) (Nat.le_of_ble_eq_true rfl) (Nat.le_of_ble_eq_true rfl) dX5_init_31 (fun q3 H hP hD hS => ?_)
  have hP : va_P D vwCl [(h0, .inr (5, [.ref q0, .ref q1, .ref q2, .null, .int 0])), (q0, .inl (cA 0, 60, .inl (fun _ => 0))), (q1, .inl (cA 0, 60, .inl (fun _ => 0))), (q2, .inl (cA 0, 60, .inl (fun _ => 0))), (q3, .inl (cA 0, 60, .inl (fun _ => 0)))] H := hP
  have hD : va_D A [(h0, .inr (5, [.ref q0, .ref q1, .ref q2, .null, .int 0])), (q0, .inl (cA 0, 60, .inl (fun _ => 0))), (q1, .inl (cA 0, 60, .inl (fun _ => 0))), (q2, .inl (cA 0, 60, .inl (fun _ => 0))), (q3, .inl (cA 0, 60, .inl (fun _ => 0)))] := hD
  refine W.widen (k := 4) (n := 240) (Nat.le_of_ble_eq_true rfl) (Nat.le_of_ble_eq_true rfl) ?_
  refine va_putF (D := D) (ci := 5) (v := .ref q3) (ty := .array .int) (C := RX5) (T := TX5) (N := 5) hx hb hts in_X5_init tyX5 tyX5_ok nmX5 hown hK hP hD hS 0 rfl rfl 3 (by decide) (hts (.fieldLink RX5 21 "AmphoraYard$Sherds" "stamp" "[I") (xt1 (xl (xt4 (xt1 (xt1 (xt1 (xh)))))))) (fun _ h9 => h9) rfl hin rfl (by decide +kernel) rfl rfl (Nat.le_of_ble_eq_true rfl) dX5_init_33 (fun H locs hP hD hS => ?_)
  have hP : va_P D vwCl [(h0, .inr (5, [.ref q0, .ref q1, .ref q2, .ref q3, .int 0])), (q0, .inl (cA 0, 60, .inl (fun _ => 0))), (q1, .inl (cA 0, 60, .inl (fun _ => 0))), (q2, .inl (cA 0, 60, .inl (fun _ => 0))), (q3, .inl (cA 0, 60, .inl (fun _ => 0)))] H := hP
  have hD : va_D A [(h0, .inr (5, [.ref q0, .ref q1, .ref q2, .ref q3, .int 0])), (q0, .inl (cA 0, 60, .inl (fun _ => 0))), (q1, .inl (cA 0, 60, .inl (fun _ => 0))), (q2, .inl (cA 0, 60, .inl (fun _ => 0))), (q3, .inl (cA 0, 60, .inl (fun _ => 0)))] := hD
  refine lv_aload_n hx hb dX5_init_36 rfl (lv_at hl 0 rfl) ?_
  refine lv_iconst (v := 0) hx hb dX5_init_37 (by decide) ?_
  refine va_put (D := D) (ci := 5) (v := .int 0) (ty := .int) (C := RX5) (T := TX5) (N := 5) hx hb hts in_X5_init tyX5 tyX5_ok nmX5 hown hK hP hD hS 0 rfl rfl 4 (by decide) (hts (.fieldLink RX5 24 "AmphoraYard$Sherds" "size" "I") (xt1 (xl (xt4 (xt4 (xh)))))) (fun _ h9 => h9) rfl (by decide +kernel) rfl rfl (Nat.le_of_ble_eq_true rfl) dX5_init_38 (fun H locs hP hD hS => ?_)
  have hP : va_P D vwCl [(h0, .inr (5, [.ref q0, .ref q1, .ref q2, .ref q3, .int 0])), (q0, .inl (cA 0, 60, .inl (fun _ => 0))), (q1, .inl (cA 0, 60, .inl (fun _ => 0))), (q2, .inl (cA 0, 60, .inl (fun _ => 0))), (q3, .inl (cA 0, 60, .inl (fun _ => 0)))] H := hP
  have hD : va_D A [(h0, .inr (5, [.ref q0, .ref q1, .ref q2, .ref q3, .int 0])), (q0, .inl (cA 0, 60, .inl (fun _ => 0))), (q1, .inl (cA 0, 60, .inl (fun _ => 0))), (q2, .inl (cA 0, 60, .inl (fun _ => 0))), (q3, .inl (cA 0, 60, .inl (fun _ => 0)))] := hD
  refine W.widen (k := 4) (n := 240) (Nat.le_of_ble_eq_true rfl) (Nat.le_of_ble_eq_true rfl) ?_
  exact W.vret hx hb hr (fun t ht hW => ⟨⟨(), rfl, trivial, q0, q1, q2, q3, by rw [ht]; exact hP, hD⟩, hS.F ht⟩) hS.2.2 dX5_init_41
