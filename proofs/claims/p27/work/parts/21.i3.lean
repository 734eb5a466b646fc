theorem in_X1_init : ∀ w ∈ u_ws RX1 TX1 8, w ∈ wsX1_init := fun _ h => xt1 (xr (h))
set_option maxHeartbeats 8000000 in
set_option maxRecDepth 100000 in
theorem iX1 (l : Launch) (D : va_G) (cA : Nat → ClassId) (h0 sz : Nat) (r1 : Nat) : Met l yX1_init wsX1_init ({ frames := 1, cells := 6, slots := 360, locals := 12 }) (va_Pc [.ref h0, .ref r1] (fun U => U.heap.size = sz ∧ va_P D vwCl [(h0, .inr (1, [.null, .null, .null, .null, .null, .null, .null, .int 0]))] U.heap ∧ va_K D vwCl (hy_ty cA) U ∧ va_D (fun _ => True) [(h0, .inr (1, [.null, .null, .null, .null, .null, .null, .null, .int 0]))])) (va_Qv (fun _ : Unit => True) (fun _ t => ∃ (q0 q1 q2 q3 q4 q5 : Nat), va_P D vwCl [(h0, .inr (1, [.ref r1, .ref q0, .ref q1, .ref q2, .ref q3, .ref q4, .ref q5, .int 0])), (q0, .inl (cA 0, 60, .inl (fun _ => 0))), (q1, .inl (cA 0, 60, .inl (fun _ => 0))), (q2, .inl (cA 0, 60, .inl (fun _ => 0))), (q3, .inl (cA 0, 60, .inl (fun _ => 0))), (q4, .inl (cA 0, 60, .inl (fun _ => 0))), (q5, .inl (cA 0, 60, .inl (fun _ => 0)))] t.heap ∧ va_D (va_A [(h0, .inr (1, [.null, .null, .null, .null, .null, .null, .null, .int 0]))] sz) [(h0, .inr (1, [.ref r1, .ref q0, .ref q1, .ref q2, .ref q3, .ref q4, .ref q5, .int 0])), (q0, .inl (cA 0, 60, .inl (fun _ => 0))), (q1, .inl (cA 0, 60, .inl (fun _ => 0))), (q2, .inl (cA 0, 60, .inl (fun _ => 0))), (q3, .inl (cA 0, 60, .inl (fun _ => 0))), (q4, .inl (cA 0, 60, .inl (fun _ => 0))), (q5, .inl (cA 0, 60, .inl (fun _ => 0)))]) (va_A [(h0, .inr (1, [.null, .null, .null, .null, .null, .null, .null, .int 0]))] sz)) 6 360 (va_A [(h0, .inr (1, [.null, .null, .null, .null, .null, .null, .null, .int 0]))] sz) := by
  refine Met.ofW (cc := cX1_init) (maxL := 2) (ret := none) (by decide +kernel) rfl ?_
  intro p e s m args below meth c s₁ B hml hv
  obtain ⟨rfl, hsz, hP, hK, hD0⟩ := hv
  have hx := B.exec
  have hb := B.bytes
  have hr := B.returns
  have hts := atoms_spec (ws := wsX1_init) B.pre
  have hown : s.vm.findClass RX1 = some m.cls := findClass_of_methodNamed B.named
  have hlocks := B.notSynchronized
  have hin : meth.name = "<init>" := (name_of_methodNamed B.named B.method).1
  subst hsz
  have hD := hD0.self (sz := s.heap.size)
  generalize hAe : va_A [(h0, .inr (1, [.null, .null, .null, .null, .null, .null, .null, .int 0]))] s.heap.size = A at hD ⊢
  have hA : ∀ q : Nat, s.heap.size ≤ q → A q := fun q h => by rw [← hAe]; exact Or.inr h
  have hS : va_S A s.heap s.heap [] := va_S.rf
  have hl := lv_entry ([.ref h0, .ref r1]) (n := 2) (Nat.le_of_ble_eq_true rfl)
  rw [lg_entry_eq]
  generalize (lg_sl ([.ref h0, .ref r1]) ++ List.replicate (2 - (lg_sl ([.ref h0, .ref r1])).length) Slot.unset).toArray = ls at hl ⊢
  have hl : lv_has ls 2 [(0, .ref h0), (1, .ref r1)] := hl
  refine lv_aload_n hx hb dX1_init_0 rfl (lv_at hl 0 rfl) ?_
  refine W.objInit hx hb hown (hts (.methodLink RX1 3 objectInit) (xt1 (xl (xh)))) (hts (.instanceMethod objectInit) (xt1 (xl (xt1 (xh))))) (hts _ (List.mem_of_getElem? (i := 3) rfl)) rfl (by rw [hml]; exact hl.1) rfl dX1_init_1 (Nat.le_of_ble_eq_true rfl) (Nat.le_of_ble_eq_true rfl) ?_
  refine W.eq (g2 := F0 m 4 ls []) rfl ?_
  refine lv_aload_n hx hb dX1_init_4 rfl (lv_at hl 0 rfl) ?_
  refine lv_aload_n hx hb dX1_init_5 rfl (lv_at hl 1 rfl) ?_
  refine va_putF (D := D) (ci := 1) (v := .ref r1) (ty := .object "AmphoraYard$Kinds") (C := RX1) (T := TX1) (N := 8) hx hb hts in_X1_init tyX1 tyX1_ok nmX1 hown hK hP hD hS 0 rfl rfl 0 (by decide) (hts (.fieldLink RX1 9 "AmphoraYard$Jars" "kinds" "LAmphoraYard$Kinds;") (xt1 (xl (xt1 (xt1 (xt1 (xh))))))) (fun _ h9 => h9) rfl hin rfl (by decide +kernel) rfl rfl (Nat.le_of_ble_eq_true rfl) dX1_init_6 (fun H locs hP hD hS => ?_)
  have hP : va_P D vwCl [(h0, .inr (1, [.ref r1, .null, .null, .null, .null, .null, .null, .int 0]))] H := hP
  have hD : va_D A [(h0, .inr (1, [.ref r1, .null, .null, .null, .null, .null, .null, .int 0]))] := hD
  refine lv_aload_n hx hb dX1_init_9 rfl (lv_at hl 0 rfl) ?_
  refine lv_bipush (v := 60) hx hb dX1_init_10 (by decide) ?_
  refine hy_newa (atype := .int) (ty := .int) (a0 := (60, .inl (fun _ => 0))) hx hb (hts (.arrayClass .int) (xt1 (xl (xt4 (xh))))) rfl hK hP hD hS hA 0 rfl hy_oneI (fun _ => rfl) (by decide) (by decide) (by decide) (Nat.le_of_ble_eq_true rfl) (Nat.le_of_ble_eq_true rfl) dX1_init_12 (fun q0 H hP hD hS => ?_)
  have hP : va_P D vwCl [(h0, .inr (1, [.ref r1, .null, .null, .null, .null, .null, .null, .int 0])), (q0, .inl (cA 0, 60, .inl (fun _ => 0)))] H := hP
  have hD : va_D A [(h0, .inr (1, [.ref r1, .null, .null, .null, .null, .null, .null, .int 0])), (q0, .inl (cA 0, 60, .inl (fun _ => 0)))] := hD
  refine W.widen (k := 1) (n := 60) (Nat.le_of_ble_eq_true rfl) (Nat.le_of_ble_eq_true rfl) ?_
  refine va_putF (D := D) (ci := 1) (v := .ref q0) (ty := .array .int) (C := RX1) (T := TX1) (N := 8) hx hb hts in_X1_init tyX1 tyX1_ok nmX1 hown hK hP hD hS 0 rfl rfl 1 (by decide) (hts (.fieldLink RX1 15 "AmphoraYard$Jars" "kindOf" "[I") (xt1 (xl (xt4 (xt1 (xh)))))) (fun _ h9 => h9) rfl hin rfl (by decide +kernel) rfl rfl (Nat.le_of_ble_eq_true rfl) dX1_init_14 (fun H locs hP hD hS => ?_)
  have hP : va_P D vwCl [(h0, .inr (1, [.ref r1, .ref q0, .null, .null, .null, .null, .null, .int 0])), (q0, .inl (cA 0, 60, .inl (fun _ => 0)))] H := hP
  have hD : va_D A [(h0, .inr (1, [.ref r1, .ref q0, .null, .null, .null, .null, .null, .int 0])), (q0, .inl (cA 0, 60, .inl (fun _ => 0)))] := hD
  refine lv_aload_n hx hb dX1_init_17 rfl (lv_at hl 0 rfl) ?_
  refine lv_bipush (v := 60) hx hb dX1_init_18 (by decide) ?_
  refine hy_newa (atype := .int) (ty := .int) (a0 := (60, .inl (fun _ => 0))) hx hb (hts (.arrayClass .int) (xt1 (xl (xt4 (xh))))) rfl hK hP hD hS hA 0 rfl hy_oneI (fun _ => rfl) (by decide) (by decide) (by decide) (Nat.le_of_ble_eq_true rfl) (Nat.le_of_ble_eq_true rfl) dX1_init_20 (fun q1 H hP hD hS => ?_)
  have hP : va_P D vwCl [(h0, .inr (1, [.ref r1, .ref q0, .null, .null, .null, .null, .null, .int 0])), (q0, .inl (cA 0, 60, .inl (fun _ => 0))), (q1, .inl (cA 0, 60, .inl (fun _ => 0)))] H := hP
  have hD : va_D A [(h0, .inr (1, [.ref r1, .ref q0, .null, .null, .null, .null, .null, .int 0])), (q0, .inl (cA 0, 60, .inl (fun _ => 0))), (q1, .inl (cA 0, 60, .inl (fun _ => 0)))] := hD
  refine W.widen (k := 2) (n := 120) (Nat.le_of_ble_eq_true rfl) (Nat.le_of_ble_eq_true rfl) ?_
  refine va_putF (D := D) (ci := 1) (v := .ref q1) (ty := .array .int) (C := RX1) (T := TX1) (N := 8) hx hb hts in_X1_init tyX1 tyX1_ok nmX1 hown hK hP hD hS 0 rfl rfl 2 (by decide) (hts (.fieldLink RX1 19 "AmphoraYard$Jars" "maker" "[I") (xt1 (xl (xt4 (xt1 (xt1 (xh))))))) (fun _ h9 => h9) rfl hin rfl (by decide +kernel) rfl rfl (Nat.le_of_ble_eq_true rfl) dX1_init_22 (fun H locs hP hD hS => ?_)
  have hP : va_P D vwCl [(h0, .inr (1, [.ref r1, .ref q0, .ref q1, .null, .null, .null, .null, .int 0])), (q0, .inl (cA 0, 60, .inl (fun _ => 0))), (q1, .inl (cA 0, 60, .inl (fun _ => 0)))] H := hP
  have hD : va_D A [(h0, .inr (1, [.ref r1, .ref q0, .ref q1, .null, .null, .null, .null, .int 0])), (q0, .inl (cA 0, 60, .inl (fun _ => 0))), (q1, .inl (cA 0, 60, .inl (fun _ => 0)))] := hD
  refine lv_aload_n hx hb dX1_init_25 rfl (lv_at hl 0 rfl) ?_
  refine lv_bipush (v := 60) hx hb dX1_init_26 (by decide) ?_
  refine hy_newa (atype := .int) (ty := .int) (a0 := (60, .inl (fun _ => 0))) hx hb (hts (.arrayClass .int) (xt1 (xl (xt4 (xh))))) rfl hK hP hD hS hA 0 rfl hy_oneI (fun _ => rfl) (by decide) (by decide) (by decide) (Nat.le_of_ble_eq_true rfl) (Nat.le_of_ble_eq_true rfl) dX1_init_28 (fun q2 H hP hD hS => ?_)
  have hP : va_P D vwCl [(h0, .inr (1, [.ref r1, .ref q0, .ref q1, .null, .null, .null, .null, .int 0])), (q0, .inl (cA 0, 60, .inl (fun _ => 0))), (q1, .inl (cA 0, 60, .inl (fun _ => 0))), (q2, .inl (cA 0, 60, .inl (fun _ => 0)))] H := hP
  have hD : va_D A [(h0, .inr (1, [.ref r1, .ref q0, .ref q1, .null, .null, .null, .null, .int 0])), (q0, .inl (cA 0, 60, .inl (fun _ => 0))), (q1, .inl (cA 0, 60, .inl (fun _ => 0))), (q2, .inl (cA 0, 60, .inl (fun _ => 0)))] := hD
  refine W.widen (k := 3) (n := 180) (Nat.le_of_ble_eq_true rfl) (Nat.le_of_ble_eq_true rfl) ?_
  refine va_putF (D := D) (ci := 1) (v := .ref q2) (ty := .array .int) (C := RX1) (T := TX1) (N := 8) hx hb hts in_X1_init tyX1 tyX1_ok nmX1 hown hK hP hD hS 0 rfl rfl 3 (by decide) (hts (.fieldLink RX1 22 "AmphoraYard$Jars" "year" "[I") (xt1 (xl (xt4 (xt1 (xt1 (xt1 (xh)))))))) (fun _ h9 => h9) rfl hin rfl (by decide +kernel) rfl rfl (Nat.le_of_ble_eq_true rfl) dX1_init_30 (fun H locs hP hD hS => ?_)
  have hP : va_P D vwCl [(h0, .inr (1, [.ref r1, .ref q0, .ref q1, .ref q2, .null, .null, .null, .int 0])), (q0, .inl (cA 0, 60, .inl (fun _ => 0))), (q1, .inl (cA 0, 60, .inl (fun _ => 0))), (q2, .inl (cA 0, 60, .inl (fun _ => 0)))] H := hP
  have hD : va_D A [(h0, .inr (1, [.ref r1, .ref q0, .ref q1, .ref q2, .null, .null, .null, .int 0])), (q0, .inl (cA 0, 60, .inl (fun _ => 0))), (q1, .inl (cA 0, 60, .inl (fun _ => 0))), (q2, .inl (cA 0, 60, .inl (fun _ => 0)))] := hD
  refine lv_aload_n hx hb dX1_init_33 rfl (lv_at hl 0 rfl) ?_
  refine lv_bipush (v := 60) hx hb dX1_init_34 (by decide) ?_
  refine hy_newa (atype := .int) (ty := .int) (a0 := (60, .inl (fun _ => 0))) hx hb (hts (.arrayClass .int) (xt1 (xl (xt4 (xh))))) rfl hK hP hD hS hA 0 rfl hy_oneI (fun _ => rfl) (by decide) (by decide) (by decide) (Nat.le_of_ble_eq_true rfl) (Nat.le_of_ble_eq_true rfl) dX1_init_36 (fun q3 H hP hD hS => ?_)
  have hP : va_P D vwCl [(h0, .inr (1, [.ref r1, .ref q0, .ref q1, .ref q2, .null, .null, .null, .int 0])), (q0, .inl (cA 0, 60, .inl (fun _ => 0))), (q1, .inl (cA 0, 60, .inl (fun _ => 0))), (q2, .inl (cA 0, 60, .inl (fun _ => 0))), (q3, .inl (cA 0, 60, .inl (fun _ => 0)))] H := hP
  have hD : va_D A [(h0, .inr (1, [.ref r1, .ref q0, .ref q1, .ref q2, .null, .null, .null, .int 0])), (q0, .inl (cA 0, 60, .inl (fun _ => 0))), (q1, .inl (cA 0, 60, .inl (fun _ => 0))), (q2, .inl (cA 0, 60, .inl (fun _ => 0))), (q3, .inl (cA 0, 60, .inl (fun _ => 0)))] := hD
  refine W.widen (k := 4) (n := 240) (Nat.le_of_ble_eq_true rfl) (Nat.le_of_ble_eq_true rfl) ?_
  refine va_putF (D := D) (ci := 1) (v := .ref q3) (ty := .array .int) (C := RX1) (T := TX1) (N := 8) hx hb hts in_X1_init tyX1 tyX1_ok nmX1 hown hK hP hD hS 0 rfl rfl 4 (by decide) (hts (.fieldLink RX1 25 "AmphoraYard$Jars" "oil" "[I") (xt1 (xl (xt4 (xt4 (xh)))))) (fun _ h9 => h9) rfl hin rfl (by decide +kernel) rfl rfl (Nat.le_of_ble_eq_true rfl) dX1_init_38 (fun H locs hP hD hS => ?_)
  have hP : va_P D vwCl [(h0, .inr (1, [.ref r1, .ref q0, .ref q1, .ref q2, .ref q3, .null, .null, .int 0])), (q0, .inl (cA 0, 60, .inl (fun _ => 0))), (q1, .inl (cA 0, 60, .inl (fun _ => 0))), (q2, .inl (cA 0, 60, .inl (fun _ => 0))), (q3, .inl (cA 0, 60, .inl (fun _ => 0)))] H := hP
  have hD : va_D A [(h0, .inr (1, [.ref r1, .ref q0, .ref q1, .ref q2, .ref q3, .null, .null, .int 0])), (q0, .inl (cA 0, 60, .inl (fun _ => 0))), (q1, .inl (cA 0, 60, .inl (fun _ => 0))), (q2, .inl (cA 0, 60, .inl (fun _ => 0))), (q3, .inl (cA 0, 60, .inl (fun _ => 0)))] := hD
  refine lv_aload_n hx hb dX1_init_41 rfl (lv_at hl 0 rfl) ?_
  refine lv_bipush (v := 60) hx hb dX1_init_42 (by decide) ?_
  refine hy_newa (atype := .int) (ty := .int) (a0 := (60, .inl (fun _ => 0))) hx hb (hts (.arrayClass .int) (xt1 (xl (xt4 (xh))))) rfl hK hP hD hS hA 0 rfl hy_oneI (fun _ => rfl) (by decide) (by decide) (by decide) (Nat.le_of_ble_eq_true rfl) (Nat.le_of_ble_eq_true rfl) dX1_init_44 (fun q4 H hP hD hS => ?_)
  have hP : va_P D vwCl [(h0, .inr (1, [.ref r1, .ref q0, .ref q1, .ref q2, .ref q3, .null, .null, .int 0])), (q0, .inl (cA 0, 60, .inl (fun _ => 0))), (q1, .inl (cA 0, 60, .inl (fun _ => 0))), (q2, .inl (cA 0, 60, .inl (fun _ => 0))), (q3, .inl (cA 0, 60, .inl (fun _ => 0))), (q4, .inl (cA 0, 60, .inl (fun _ => 0)))] H := hP
  have hD : va_D A [(h0, .inr (1, [.ref r1, .ref q0, .ref q1, .ref q2, .ref q3, .null, .null, .int 0])), (q0, .inl (cA 0, 60, .inl (fun _ => 0))), (q1, .inl (cA 0, 60, .inl (fun _ => 0))), (q2, .inl (cA 0, 60, .inl (fun _ => 0))), (q3, .inl (cA 0, 60, .inl (fun _ => 0))), (q4, .inl (cA 0, 60, .inl (fun _ => 0)))] := hD
  refine W.widen (k := 5) (n := 300) (Nat.le_of_ble_eq_true rfl) (Nat.le_of_ble_eq_true rfl) ?_
  refine va_putF (D := D) (ci := 1) (v := .ref q4) (ty := .array .int) (C := RX1) (T := TX1) (N := 8) hx hb hts in_X1_init tyX1 tyX1_ok nmX1 hown hK hP hD hS 0 rfl rfl 5 (by decide) (hts (.fieldLink RX1 28 "AmphoraYard$Jars" "place" "[I") (xt1 (xl (xt4 (xt4 (xt1 (xh))))))) (fun _ h9 => h9) rfl hin rfl (by decide +kernel) rfl rfl (Nat.le_of_ble_eq_true rfl) dX1_init_46 (fun H locs hP hD hS => ?_)
  have hP : va_P D vwCl [(h0, .inr (1, [.ref r1, .ref q0, .ref q1, .ref q2, .ref q3, .ref q4, .null, .int 0])), (q0, .inl (cA 0, 60, .inl (fun _ => 0))), (q1, .inl (cA 0, 60, .inl (fun _ => 0))), (q2, .inl (cA 0, 60, .inl (fun _ => 0))), (q3, .inl (cA 0, 60, .inl (fun _ => 0))), (q4, .inl (cA 0, 60, .inl (fun _ => 0)))] H := hP
  have hD : va_D A [(h0, .inr (1, [.ref r1, .ref q0, .ref q1, .ref q2, .ref q3, .ref q4, .null, .int 0])), (q0, .inl (cA 0, 60, .inl (fun _ => 0))), (q1, .inl (cA 0, 60, .inl (fun _ => 0))), (q2, .inl (cA 0, 60, .inl (fun _ => 0))), (q3, .inl (cA 0, 60, .inl (fun _ => 0))), (q4, .inl (cA 0, 60, .inl (fun _ => 0)))] := hD
  refine lv_aload_n hx hb dX1_init_49 rfl (lv_at hl 0 rfl) ?_
  refine lv_bipush (v := 60) hx hb dX1_init_50 (by decide) ?_
  refine hy_newa (atype := .int) (ty := .int) (a0 := (60, .inl (fun _ => 0))) hx hb (hts (.arrayClass .int) (xt1 (xl (xt4 (xh))))) rfl hK hP hD hS hA 0 rfl hy_oneI (fun _ => rfl) (by decide) (by decide) (by decide) (Nat.le_of_ble_eq_true rfl) (Nat.le_of_ble_eq_true rfl) dX1_init_52 (fun q5 H hP hD hS => ?_)
  have hP : va_P D vwCl [(h0, .inr (1, [.ref r1, .ref q0, .ref q1, .ref q2, .ref q3, .ref q4, .null, .int 0])), (q0, .inl (cA 0, 60, .inl (fun _ => 0))), (q1, .inl (cA 0, 60, .inl (fun _ => 0))), (q2, .inl (cA 0, 60, .inl (fun _ => 0))), (q3, .inl (cA 0, 60, .inl (fun _ => 0))), (q4, .inl (cA 0, 60, .inl (fun _ => 0))), (q5, .inl (cA 0, 60, .inl (fun _ => 0)))] H := hP
  have hD : va_D A [(h0, .inr (1, [.ref r1, .ref q0, .ref q1, .ref q2, .ref q3, .ref q4, .null, .int 0])), (q0, .inl (cA 0, 60, .inl (fun _ => 0))), (q1, .inl (cA 0, 60, .inl (fun _ => 0))), (q2, .inl (cA 0, 60, .inl (fun _ => 0))), (q3, .inl (cA 0, 60, .inl (fun _ => 0))), (q4, .inl (cA 0, 60, .inl (fun _ => 0))), (q5, .inl (cA 0, 60, .inl (fun _ => 0)))] := hD
  refine W.widen (k := 6) (n := 360) (Nat.le_of_ble_eq_true rfl) (Nat.le_of_ble_eq_true rfl) ?_
  refine va_putF (D := D) (ci := 1) (v := .ref q5) (ty := .array .int) (C := RX1) (T := TX1) (N := 8) hx hb hts in_X1_init tyX1 tyX1_ok nmX1 hown hK hP hD hS 0 rfl rfl 6 (by decide) (hts (.fieldLink RX1 31 "AmphoraYard$Jars" "pile" "[I") (xt1 (xl (xt4 (xt4 (xt1 (xt1 (xh)))))))) (fun _ h9 => h9) rfl hin rfl (by decide +kernel) rfl rfl (Nat.le_of_ble_eq_true rfl) dX1_init_54 (fun H locs hP hD hS => ?_)
  have hP : va_P D vwCl [(h0, .inr (1, [.ref r1, .ref q0, .ref q1, .ref q2, .ref q3, .ref q4, .ref q5, .int 0])), (q0, .inl (cA 0, 60, .inl (fun _ => 0))), (q1, .inl (cA 0, 60, .inl (fun _ => 0))), (q2, .inl (cA 0, 60, .inl (fun _ => 0))), (q3, .inl (cA 0, 60, .inl (fun _ => 0))), (q4, .inl (cA 0, 60, .inl (fun _ => 0))), (q5, .inl (cA 0, 60, .inl (fun _ => 0)))] H := hP
  have hD : va_D A [(h0, .inr (1, [.ref r1, .ref q0, .ref q1, .ref q2, .ref q3, .ref q4, .ref q5, .int 0])), (q0, .inl (cA 0, 60, .inl (fun _ => 0))), (q1, .inl (cA 0, 60, .inl (fun _ => 0))), (q2, .inl (cA 0, 60, .inl (fun _ => 0))), (q3, .inl (cA 0, 60, .inl (fun _ => 0))), (q4, .inl (cA 0, 60, .inl (fun _ => 0))), (q5, .inl (cA 0, 60, .inl (fun _ => 0)))] := hD
  refine lv_aload_n hx hb dX1_init_57 rfl (lv_at hl 0 rfl) ?_
  refine lv_iconst (v := 0) hx hb dX1_init_58 (by decide) ?_
  refine va_put (D := D) (ci := 1) (v := .int 0) (ty := .int) (C := RX1) (T := TX1) (N := 8) hx hb hts in_X1_init tyX1 tyX1_ok nmX1 hown hK hP hD hS 0 rfl rfl 7 (by decide) (hts (.fieldLink RX1 34 "AmphoraYard$Jars" "size" "I") (xt1 (xl (xt4 (xt4 (xt1 (xt1 (xt1 (xh))))))))) (fun _ h9 => h9) rfl (by decide +kernel) rfl rfl (Nat.le_of_ble_eq_true rfl) dX1_init_59 (fun H locs hP hD hS => ?_)
  have hP : va_P D vwCl [(h0, .inr (1, [.ref r1, .ref q0, .ref q1, .ref q2, .ref q3, .ref q4, .ref q5, .int 0])), (q0, .inl (cA 0, 60, .inl (fun _ => 0))), (q1, .inl (cA 0, 60, .inl (fun _ => 0))), (q2, .inl (cA 0, 60, .inl (fun _ => 0))), (q3, .inl (cA 0, 60, .inl (fun _ => 0))), (q4, .inl (cA 0, 60, .inl (fun _ => 0))), (q5, .inl (cA 0, 60, .inl (fun _ => 0)))] H := hP
  have hD : va_D A [(h0, .inr (1, [.ref r1, .ref q0, .ref q1, .ref q2, .ref q3, .ref q4, .ref q5, .int 0])), (q0, .inl (cA 0, 60, .inl (fun _ => 0))), (q1, .inl (cA 0, 60, .inl (fun _ => 0))), (q2, .inl (cA 0, 60, .inl (fun _ => 0))), (q3, .inl (cA 0, 60, .inl (fun _ => 0))), (q4, .inl (cA 0, 60, .inl (fun _ => 0))), (q5, .inl (cA 0, 60, .inl (fun _ => 0)))] := hD
  refine W.widen (k := 6) (n := 360) (Nat.le_of_ble_eq_true rfl) (Nat.le_of_ble_eq_true rfl) ?_
  exact W.vret hx hb hr (fun t ht hW => ⟨⟨(), rfl, trivial, q0, q1, q2, q3, q4, q5, by rw [ht]; exact hP, hD⟩, hS.F ht⟩) hS.2.2 dX1_init_62
